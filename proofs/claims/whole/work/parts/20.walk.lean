theorem ff_RX0_11_0 : FF RX0 11 0 1 := ⟨RX0, RX0, TX0, 9, ci0, by decide, (gm2 (List.mem_of_getElem? (i := 202) rfl) rfl), Or.inl rfl, rfl, rfl⟩
theorem ff_RX0_15_0 : FF RX0 15 0 2 := ⟨RX0, RX0, TX0, 9, ci0, by decide, (gm2 (List.mem_of_getElem? (i := 204) rfl) rfl), Or.inl rfl, rfl, rfl⟩
theorem ff_RX0_18_0 : FF RX0 18 0 3 := ⟨RX0, RX0, TX0, 9, ci0, by decide, (gm2 (List.mem_of_getElem? (i := 206) rfl) rfl), Or.inl rfl, rfl, rfl⟩
theorem ff_RX0_22_0 : FF RX0 22 0 4 := ⟨RX0, RX0, TX0, 9, ci0, by decide, (gm2 (List.mem_of_getElem? (i := 207) rfl) rfl), Or.inl rfl, rfl, rfl⟩
theorem ff_RX0_25_0 : FF RX0 25 0 5 := ⟨RX0, RX0, TX0, 9, ci0, by decide, (gm2 (List.mem_of_getElem? (i := 208) rfl) rfl), Or.inl rfl, rfl, rfl⟩
theorem ff_RX0_28_0 : FF RX0 28 0 6 := ⟨RX0, RX0, TX0, 9, ci0, by decide, (gm2 (List.mem_of_getElem? (i := 210) rfl) rfl), Or.inl rfl, rfl, rfl⟩
theorem ff_RX0_31_0 : FF RX0 31 0 7 := ⟨RX0, RX0, TX0, 9, ci0, by decide, (gm2 (List.mem_of_getElem? (i := 211) rfl) rfl), Or.inl rfl, rfl, rfl⟩
theorem ff_RX0_34_0 : FF RX0 34 0 8 := ⟨RX0, RX0, TX0, 9, ci0, by decide, (gm2 (List.mem_of_getElem? (i := 212) rfl) rfl), Or.inl rfl, rfl, rfl⟩
theorem fp_RX0_37_0 : FP RX0 37 0 0 := ⟨RX0, RX0, TX0, 9, ci0, by decide, (gm2 (List.mem_of_getElem? (i := 201) rfl) rfl), Or.inl rfl, rfl⟩
theorem fl_RX1_28_1 : FL RX1 28 1 8 := ⟨RX1, RX1, TX1, 16, ci1, by decide, (gm1 (List.mem_of_getElem? (i := 187) rfl) rfl), Or.inl rfl⟩
theorem fl_RX1_25_1 : FL RX1 25 1 7 := ⟨RX1, RX1, TX1, 16, ci1, by decide, (gm1 (List.mem_of_getElem? (i := 184) rfl) rfl), Or.inl rfl⟩
theorem yl_X1_wideAt : YL yX1_wideAt cX1_wideAt 3 (some .int) 2 := ⟨(gm3 (List.mem_of_getElem? (i := 213) rfl) rfl), (gm1 (List.mem_of_getElem? (i := 8) rfl) rfl), by decide, by decide, by decide +kernel⟩
theorem fl_RX1_60_1 : FL RX1 60 1 0 := ⟨RX1, RX1, TX1, 16, ci1, by decide, (gm1 (List.mem_of_getElem? (i := 164) rfl) rfl), Or.inl rfl⟩
theorem yl_X1_highAt : YL yX1_highAt cX1_highAt 3 (some .int) 2 := ⟨(gm3 (List.mem_of_getElem? (i := 217) rfl) rfl), (gm1 (List.mem_of_getElem? (i := 8) rfl) rfl), by decide, by decide, by decide +kernel⟩
theorem fl_RX1_64_1 : FL RX1 64 1 1 := ⟨RX1, RX1, TX1, 16, ci1, by decide, (gm1 (List.mem_of_getElem? (i := 167) rfl) rfl), Or.inl rfl⟩
theorem yl_X11_blockOf : YL yX11_blockOf cX11_blockOf 7 (some .long) 2 := ⟨(gm3 (List.mem_of_getElem? (i := 228) rfl) rfl), (gm1 (List.mem_of_getElem? (i := 1) rfl) rfl), by decide, by decide, by decide +kernel⟩
theorem fl_RX0_37_0 : FL RX0 37 0 0 := ⟨RX0, RX0, TX0, 9, ci0, by decide, (gm2 (List.mem_of_getElem? (i := 201) rfl) rfl), Or.inl rfl⟩
theorem fl_RX0_54_1 : FL RX0 54 1 7 := ⟨RX1, RX1, TX1, 16, ci1, by decide, (gm1 (List.mem_of_getElem? (i := 185) rfl) rfl), Or.inl rfl⟩
theorem fl_RX0_57_1 : FL RX0 57 1 8 := ⟨RX1, RX1, TX1, 16, ci1, by decide, (gm1 (List.mem_of_getElem? (i := 188) rfl) rfl), Or.inl rfl⟩
theorem yl_X1_holds : YL yX1_holds cX1_holds 3 (some .boolean) 2 := ⟨(gm3 (List.mem_of_getElem? (i := 209) rfl) rfl), (gm1 (List.mem_of_getElem? (i := 8) rfl) rfl), by decide, by decide, by decide +kernel⟩
theorem fl_RX0_11_0 : FL RX0 11 0 1 := ⟨RX0, RX0, TX0, 9, ci0, by decide, (gm2 (List.mem_of_getElem? (i := 202) rfl) rfl), Or.inl rfl⟩
theorem fl_RX0_15_0 : FL RX0 15 0 2 := ⟨RX0, RX0, TX0, 9, ci0, by decide, (gm2 (List.mem_of_getElem? (i := 204) rfl) rfl), Or.inl rfl⟩
theorem fl_RX0_18_0 : FL RX0 18 0 3 := ⟨RX0, RX0, TX0, 9, ci0, by decide, (gm2 (List.mem_of_getElem? (i := 206) rfl) rfl), Or.inl rfl⟩
theorem yl_X1_coverAt : YL yX1_coverAt cX1_coverAt 3 (some .long) 2 := ⟨(gm3 (List.mem_of_getElem? (i := 225) rfl) rfl), (gm1 (List.mem_of_getElem? (i := 8) rfl) rfl), by decide, by decide, by decide +kernel⟩
theorem fl_RX0_22_0 : FL RX0 22 0 4 := ⟨RX0, RX0, TX0, 9, ci0, by decide, (gm2 (List.mem_of_getElem? (i := 207) rfl) rfl), Or.inl rfl⟩
theorem fl_RX4_27_4 : FL RX4 27 4 0 := ⟨RX4, RX4, TX4, 6, ci4, by decide, (gm1 (List.mem_of_getElem? (i := 104) rfl) rfl), Or.inl rfl⟩
theorem fl_RX4_9_4 : FL RX4 9 4 1 := ⟨RX4, RX4, TX4, 6, ci4, by decide, (gm1 (List.mem_of_getElem? (i := 109) rfl) rfl), Or.inl rfl⟩
theorem fl_RX4_15_4 : FL RX4 15 4 2 := ⟨RX4, RX4, TX4, 6, ci4, by decide, (gm1 (List.mem_of_getElem? (i := 111) rfl) rfl), Or.inl rfl⟩
theorem fl_RX4_18_4 : FL RX4 18 4 3 := ⟨RX4, RX4, TX4, 6, ci4, by decide, (gm1 (List.mem_of_getElem? (i := 113) rfl) rfl), Or.inl rfl⟩
theorem fl_RX0_78_1 : FL RX0 78 1 14 := ⟨RX1, RX1, TX1, 16, ci1, by decide, (gm1 (List.mem_of_getElem? (i := 205) rfl) rfl), Or.inl rfl⟩
theorem yl_X4_reachOf : YL yX4_reachOf cX4_reachOf 4 (some .int) 2 := ⟨(gm4 (List.mem_of_getElem? (i := 8) rfl) rfl), (gm1 (List.mem_of_getElem? (i := 9) rfl) rfl), by decide, by decide, by decide +kernel⟩
theorem yl_X1_between : YL yX1_between cX1_between 11 (some .int) 4 := ⟨(gm4 (List.mem_of_getElem? (i := 12) rfl) rfl), (gm1 (List.mem_of_getElem? (i := 8) rfl) rfl), by decide, by decide, by decide +kernel⟩
theorem fl_RX0_28_0 : FL RX0 28 0 6 := ⟨RX0, RX0, TX0, 9, ci0, by decide, (gm2 (List.mem_of_getElem? (i := 210) rfl) rfl), Or.inl rfl⟩
theorem yl_J7_fill_d0a16 : YL yJ7_fill_d0a16 cJ7_fill_d0a16 5 none 2 := ⟨(gm3 (List.mem_of_getElem? (i := 130) rfl) rfl), (gm1 (List.mem_of_getElem? (i := 11) rfl) rfl), by decide, by decide, by decide +kernel⟩
theorem yl_X0_matchTwo : YL yX0_matchTwo cX0_matchTwo 8 none 2 := ⟨(gm5 (List.mem_of_getElem? (i := 106) rfl) rfl), (gm1 (List.mem_of_getElem? (i := 17) rfl) rfl), by decide, by decide, by decide +kernel⟩
theorem yl_X0_match : YL yX0_match cX0_match 3 none 0 := ⟨(gm5 (List.mem_of_getElem? (i := 101) rfl) rfl), (gm1 (List.mem_of_getElem? (i := 17) rfl) rfl), by decide, by decide, by decide +kernel⟩
theorem fl_RX0_41_1 : FL RX0 41 1 5 := ⟨RX1, RX1, TX1, 16, ci1, by decide, (gm1 (List.mem_of_getElem? (i := 177) rfl) rfl), Or.inl rfl⟩
theorem yl_X0_listOf : YL yX0_listOf cX0_listOf 5 none 1 := ⟨(gm5 (List.mem_of_getElem? (i := 95) rfl) rfl), (gm1 (List.mem_of_getElem? (i := 17) rfl) rfl), by decide, by decide, by decide +kernel⟩
theorem fl_RX10_24_9 : FL RX10 24 9 0 := ⟨RX10, RX10, TX10, 5, ci9, by decide, (gm1 (List.mem_of_getElem? (i := 141) rfl) rfl), Or.inl rfl⟩
theorem fl_RX10_9_9 : FL RX10 9 9 1 := ⟨RX10, RX10, TX10, 5, ci9, by decide, (gm1 (List.mem_of_getElem? (i := 146) rfl) rfl), Or.inl rfl⟩
theorem fl_RX10_18_9 : FL RX10 18 9 3 := ⟨RX10, RX10, TX10, 5, ci9, by decide, (gm1 (List.mem_of_getElem? (i := 148) rfl) rfl), Or.inl rfl⟩
theorem fl_RX10_15_9 : FL RX10 15 9 2 := ⟨RX10, RX10, TX10, 5, ci9, by decide, (gm1 (List.mem_of_getElem? (i := 147) rfl) rfl), Or.inl rfl⟩
theorem yl_X10_around : YL yX10_around cX10_around 2 (some .long) 1 := ⟨(gm4 (List.mem_of_getElem? (i := 212) rfl) rfl), (gm1 (List.mem_of_getElem? (i := 10) rfl) rfl), by decide, by decide, by decide +kernel⟩
theorem yl_X10_shifted : YL yX10_shifted cX10_shifted 3 (some .long) 2 := ⟨(gm4 (List.mem_of_getElem? (i := 217) rfl) rfl), (gm1 (List.mem_of_getElem? (i := 10) rfl) rfl), by decide, by decide, by decide +kernel⟩
theorem yl_X10_isSo : YL yX10_isSo cX10_isSo 7 (some .boolean) 3 := ⟨(gm4 (List.mem_of_getElem? (i := 209) rfl) rfl), (gm1 (List.mem_of_getElem? (i := 10) rfl) rfl), by decide, by decide, by decide +kernel⟩
theorem fl_RX0_95_1 : FL RX0 95 1 15 := ⟨RX1, RX1, TX1, 16, ci1, by decide, (gm1 (List.mem_of_getElem? (i := 210) rfl) rfl), Or.inl rfl⟩
theorem yl_X10_bitsWithin : YL yX10_bitsWithin cX10_bitsWithin 6 (some .int) 2 := ⟨(gm5 (List.mem_of_getElem? (i := 227) rfl) rfl), (gm1 (List.mem_of_getElem? (i := 10) rfl) rfl), by decide, by decide, by decide +kernel⟩
theorem fl_RX0_34_0 : FL RX0 34 0 8 := ⟨RX0, RX0, TX0, 9, ci0, by decide, (gm2 (List.mem_of_getElem? (i := 212) rfl) rfl), Or.inl rfl⟩
theorem yl_X10_soBits : YL yX10_soBits cX10_soBits 6 (some .int) 2 := ⟨(gm4 (List.mem_of_getElem? (i := 205) rfl) rfl), (gm1 (List.mem_of_getElem? (i := 10) rfl) rfl), by decide, by decide, by decide +kernel⟩
theorem fl_RX0_31_0 : FL RX0 31 0 7 := ⟨RX0, RX0, TX0, 9, ci0, by decide, (gm2 (List.mem_of_getElem? (i := 211) rfl) rfl), Or.inl rfl⟩
theorem yl_X0_weighTwo : YL yX0_weighTwo cX0_weighTwo 7 none 2 := ⟨(gm5 (List.mem_of_getElem? (i := 223) rfl) rfl), (gm1 (List.mem_of_getElem? (i := 17) rfl) rfl), by decide, by decide, by decide +kernel⟩
theorem yl_X0_numberIn : YL yX0_numberIn cX0_numberIn 2 (some .int) 2 := ⟨(gm5 (List.mem_of_getElem? (i := 160) rfl) rfl), (gm1 (List.mem_of_getElem? (i := 17) rfl) rfl), by decide, by decide, by decide +kernel⟩
theorem yl_X0_notSoByTwo : YL yX0_notSoByTwo cX0_notSoByTwo 2 (some .int) 1 := ⟨(gm6 (List.mem_of_getElem? (i := 0) rfl) rfl), (gm1 (List.mem_of_getElem? (i := 17) rfl) rfl), by decide, by decide, by decide +kernel⟩
theorem fl_RX1_31_1 : FL RX1 31 1 9 := ⟨RX1, RX1, TX1, 16, ci1, by decide, (gm1 (List.mem_of_getElem? (i := 190) rfl) rfl), Or.inl rfl⟩
theorem fl_RX1_19_1 : FL RX1 19 1 4 := ⟨RX1, RX1, TX1, 16, ci1, by decide, (gm1 (List.mem_of_getElem? (i := 173) rfl) rfl), Or.inl rfl⟩
theorem fl_RX1_15_1 : FL RX1 15 1 3 := ⟨RX1, RX1, TX1, 16, ci1, by decide, (gm1 (List.mem_of_getElem? (i := 172) rfl) rfl), Or.inl rfl⟩
theorem fl_RX1_73_1 : FL RX1 73 1 11 := ⟨RX1, RX1, TX1, 16, ci1, by decide, (gm1 (List.mem_of_getElem? (i := 196) rfl) rfl), Or.inl rfl⟩
theorem fl_RX1_37_1 : FL RX1 37 1 12 := ⟨RX1, RX1, TX1, 16, ci1, by decide, (gm1 (List.mem_of_getElem? (i := 199) rfl) rfl), Or.inl rfl⟩
theorem yl_X1_poleUnder : YL yX1_poleUnder cX1_poleUnder 4 (some .int) 1 := ⟨(gm4 (List.mem_of_getElem? (i := 176) rfl) rfl), (gm1 (List.mem_of_getElem? (i := 8) rfl) rfl), by decide, by decide, by decide +kernel⟩
theorem yl_X1_hasCell : YL yX1_hasCell cX1_hasCell 3 (some .boolean) 2 := ⟨(gm4 (List.mem_of_getElem? (i := 89) rfl) rfl), (gm1 (List.mem_of_getElem? (i := 8) rfl) rfl), by decide, by decide, by decide +kernel⟩
theorem yl_X1_spotOf : YL yX1_spotOf cX1_spotOf 4 (some .int) 3 := ⟨(gm4 (List.mem_of_getElem? (i := 110) rfl) rfl), (gm1 (List.mem_of_getElem? (i := 8) rfl) rfl), by decide, by decide, by decide +kernel⟩
theorem yl_X1_carries : YL yX1_carries cX1_carries 6 (some .boolean) 3 := ⟨(gm4 (List.mem_of_getElem? (i := 130) rfl) rfl), (gm1 (List.mem_of_getElem? (i := 8) rfl) rfl), by decide, by decide, by decide +kernel⟩
theorem yl_X1_landing : YL yX1_landing cX1_landing 9 (some .int) 3 := ⟨(gm4 (List.mem_of_getElem? (i := 171) rfl) rfl), (gm1 (List.mem_of_getElem? (i := 8) rfl) rfl), by decide, by decide, by decide +kernel⟩
theorem fl_RX0_25_0 : FL RX0 25 0 5 := ⟨RX0, RX0, TX0, 9, ci0, by decide, (gm2 (List.mem_of_getElem? (i := 208) rfl) rfl), Or.inl rfl⟩
theorem yl_X0_onwardFrom : YL yX0_onwardFrom cX0_onwardFrom 7 (some .int) 4 := ⟨(gm5 (List.mem_of_getElem? (i := 116) rfl) rfl), (gm1 (List.mem_of_getElem? (i := 17) rfl) rfl), by decide, by decide, by decide +kernel⟩
theorem dX0_init_0 : decode cX0_init 0 = .ok (.aload_n 0, 1) := by decide +kernel
theorem dX0_init_1 : decode cX0_init 1 = .ok (.invokespecial 3, 3) := by decide +kernel
theorem dX0_init_4 : decode cX0_init 4 = .ok (.aload_n 0, 1) := by decide +kernel
theorem dX0_init_5 : decode cX0_init 5 = .ok (.iconst 3, 1) := by decide +kernel
theorem dX0_init_6 : decode cX0_init 6 = .ok (.newarray .int, 2) := by decide +kernel
theorem dX0_init_8 : decode cX0_init 8 = .ok (.putfield 11, 3) := by decide +kernel
theorem dX0_init_11 : decode cX0_init 11 = .ok (.aload_n 0, 1) := by decide +kernel
theorem dX0_init_12 : decode cX0_init 12 = .ok (.bipush 120, 2) := by decide +kernel
theorem dX0_init_14 : decode cX0_init 14 = .ok (.newarray .int, 2) := by decide +kernel
theorem dX0_init_16 : decode cX0_init 16 = .ok (.putfield 15, 3) := by decide +kernel
theorem dX0_init_19 : decode cX0_init 19 = .ok (.aload_n 0, 1) := by decide +kernel
theorem dX0_init_20 : decode cX0_init 20 = .ok (.bipush 120, 2) := by decide +kernel
theorem dX0_init_22 : decode cX0_init 22 = .ok (.newarray .long, 2) := by decide +kernel
theorem dX0_init_24 : decode cX0_init 24 = .ok (.putfield 18, 3) := by decide +kernel
theorem dX0_init_27 : decode cX0_init 27 = .ok (.aload_n 0, 1) := by decide +kernel
theorem dX0_init_28 : decode cX0_init 28 = .ok (.sipush 384, 3) := by decide +kernel
theorem dX0_init_31 : decode cX0_init 31 = .ok (.newarray .int, 2) := by decide +kernel
theorem dX0_init_33 : decode cX0_init 33 = .ok (.putfield 22, 3) := by decide +kernel
theorem dX0_init_36 : decode cX0_init 36 = .ok (.aload_n 0, 1) := by decide +kernel
theorem dX0_init_37 : decode cX0_init 37 = .ok (.sipush 600, 3) := by decide +kernel
theorem dX0_init_40 : decode cX0_init 40 = .ok (.newarray .int, 2) := by decide +kernel
theorem dX0_init_42 : decode cX0_init 42 = .ok (.putfield 25, 3) := by decide +kernel
theorem dX0_init_45 : decode cX0_init 45 = .ok (.aload_n 0, 1) := by decide +kernel
theorem dX0_init_46 : decode cX0_init 46 = .ok (.sipush 360, 3) := by decide +kernel
theorem dX0_init_49 : decode cX0_init 49 = .ok (.newarray .long, 2) := by decide +kernel
theorem dX0_init_51 : decode cX0_init 51 = .ok (.putfield 28, 3) := by decide +kernel
theorem dX0_init_54 : decode cX0_init 54 = .ok (.aload_n 0, 1) := by decide +kernel
theorem dX0_init_55 : decode cX0_init 55 = .ok (.sipush 4800, 3) := by decide +kernel
theorem dX0_init_58 : decode cX0_init 58 = .ok (.newarray .int, 2) := by decide +kernel
theorem dX0_init_60 : decode cX0_init 60 = .ok (.putfield 31, 3) := by decide +kernel
theorem dX0_init_63 : decode cX0_init 63 = .ok (.aload_n 0, 1) := by decide +kernel
theorem dX0_init_64 : decode cX0_init 64 = .ok (.bipush 8, 2) := by decide +kernel
theorem dX0_init_66 : decode cX0_init 66 = .ok (.newarray .long, 2) := by decide +kernel
theorem dX0_init_68 : decode cX0_init 68 = .ok (.putfield 34, 3) := by decide +kernel
theorem dX0_init_71 : decode cX0_init 71 = .ok (.aload_n 0, 1) := by decide +kernel
theorem dX0_init_72 : decode cX0_init 72 = .ok (.aload_n 1, 1) := by decide +kernel
theorem dX0_init_73 : decode cX0_init 73 = .ok (.putfield 37, 3) := by decide +kernel
theorem dX0_init_76 : decode cX0_init 76 = .ok (.return_, 1) := by decide +kernel
def wp_X0_init (h : AH) (a0 : Nat) (a1 : Nat) (post : AH → Prop) : Prop := (¬ (3 : Int32) < 0) ∧ ((aN h < 601024 ∧ aS h + (3 : Int32).toNatClampNeg ≤ 7293034) ∧ (∀ (hv1 : AH) (rv2 : Nat), hv1 = hNew h 13 (3 : Int32).toNatClampNeg → rv2 = aN h → ((ob hv1 a0 0) ∧ (∀ hv3 : AH, hv3 = hP hv1 a0 1 rv2 → ((¬ (120 : Int32) < 0) ∧ ((aN hv3 < 601024 ∧ aS hv3 + (120 : Int32).toNatClampNeg ≤ 7293034) ∧ (∀ (hv4 : AH) (rv5 : Nat), hv4 = hNew hv3 13 (120 : Int32).toNatClampNeg → rv5 = aN hv3 → ((ob hv4 a0 0) ∧ (∀ hv6 : AH, hv6 = hP hv4 a0 2 rv5 → ((¬ (120 : Int32) < 0) ∧ ((aN hv6 < 601024 ∧ aS hv6 + (120 : Int32).toNatClampNeg ≤ 7293034) ∧ (∀ (hv7 : AH) (rv8 : Nat), hv7 = hNew hv6 14 (120 : Int32).toNatClampNeg → rv8 = aN hv6 → ((ob hv7 a0 0) ∧ (∀ hv9 : AH, hv9 = hP hv7 a0 3 rv8 → ((¬ (384 : Int32) < 0) ∧ ((aN hv9 < 601024 ∧ aS hv9 + (384 : Int32).toNatClampNeg ≤ 7293034) ∧ (∀ (hv10 : AH) (rv11 : Nat), hv10 = hNew hv9 13 (384 : Int32).toNatClampNeg → rv11 = aN hv9 → ((ob hv10 a0 0) ∧ (∀ hv12 : AH, hv12 = hP hv10 a0 4 rv11 → ((¬ (600 : Int32) < 0) ∧ ((aN hv12 < 601024 ∧ aS hv12 + (600 : Int32).toNatClampNeg ≤ 7293034) ∧ (∀ (hv13 : AH) (rv14 : Nat), hv13 = hNew hv12 13 (600 : Int32).toNatClampNeg → rv14 = aN hv12 → ((ob hv13 a0 0) ∧ (∀ hv15 : AH, hv15 = hP hv13 a0 5 rv14 → ((¬ (360 : Int32) < 0) ∧ ((aN hv15 < 601024 ∧ aS hv15 + (360 : Int32).toNatClampNeg ≤ 7293034) ∧ (∀ (hv16 : AH) (rv17 : Nat), hv16 = hNew hv15 14 (360 : Int32).toNatClampNeg → rv17 = aN hv15 → ((ob hv16 a0 0) ∧ (∀ hv18 : AH, hv18 = hP hv16 a0 6 rv17 → ((¬ (4800 : Int32) < 0) ∧ ((aN hv18 < 601024 ∧ aS hv18 + (4800 : Int32).toNatClampNeg ≤ 7293034) ∧ (∀ (hv19 : AH) (rv20 : Nat), hv19 = hNew hv18 13 (4800 : Int32).toNatClampNeg → rv20 = aN hv18 → ((ob hv19 a0 0) ∧ (∀ hv21 : AH, hv21 = hP hv19 a0 7 rv20 → ((¬ (8 : Int32) < 0) ∧ ((aN hv21 < 601024 ∧ aS hv21 + (8 : Int32).toNatClampNeg ≤ 7293034) ∧ (∀ (hv22 : AH) (rv23 : Nat), hv22 = hNew hv21 14 (8 : Int32).toNatClampNeg → rv23 = aN hv21 → ((ob hv22 a0 0) ∧ (∀ hv24 : AH, hv24 = hP hv22 a0 8 rv23 → ((ob hv24 a0 0) ∧ (∀ hv25 : AH, hv25 = hP hv24 a0 0 a1 → (post hv25))))))))))))))))))))))))))))))))))))))))))
set_option maxRecDepth 100000 in
theorem c_X0_init (G : GG) (h : AH) (a0 : Nat) (a1 : Nat) (post : AH → Prop) (hw : wp_X0_init h a0 a1 post) : MC G yX0_init cX0_init 2 none 1 20 h [.ref (G.1 + a0), .ref (G.1 + a1)] (pV post) := by
  refine MC.of (lv := [(0, .ref (G.1 + a0)), (1, .ref (G.1 + a1))]) (by decide) (Nat.le_of_ble_eq_true rfl) rfl fun p l e R s m args below meth c C hr hnm => ?_
  unfold wp_X0_init at hw
  refine r_aload_n C dX0_init_0 0 rfl ?_
  refine r_objInit C (gm2 (List.mem_of_getElem? (i := 200) rfl) rfl) (gm1 (List.mem_of_getElem? (i := 32) rfl) rfl) (gm1 (List.mem_of_getElem? (i := 33) rfl) rfl) dX0_init_1 ⟨by decide, Nat.le_of_ble_eq_true rfl⟩ ?_
  refine r_aload_n C dX0_init_4 0 rfl ?_
  refine r_iconst (v := 3) C dX0_init_5 (by decide) ?_
  refine r_newI C hw.1 hw.2.1 dX0_init_6 (gm1 (List.mem_of_getElem? (i := 133) rfl) rfl) ?_
  replace hw := hw.2.2
  refine r_topn fun hv1 rv2 ehv1 erv2 => ?_
  replace hw := hw hv1 rv2 ehv1 erv2
  refine r_putPF C ff_RX0_11_0 hnm hw.1 (fun _ _ _ => rfl) dX0_init_8 ?_
  replace hw := hw.2
  refine r_toph fun hv3 ehv3 => ?_
  replace hw := hw hv3 ehv3
  refine r_aload_n C dX0_init_11 0 rfl ?_
  refine r_bipush (v := 120) C dX0_init_12 (by decide) ?_
  refine r_newI C hw.1 hw.2.1 dX0_init_14 (gm1 (List.mem_of_getElem? (i := 133) rfl) rfl) ?_
  replace hw := hw.2.2
  refine r_topn fun hv4 rv5 ehv4 erv5 => ?_
  replace hw := hw hv4 rv5 ehv4 erv5
  refine r_putPF C ff_RX0_15_0 hnm hw.1 (fun _ _ _ => rfl) dX0_init_16 ?_
  replace hw := hw.2
  refine r_toph fun hv6 ehv6 => ?_
  replace hw := hw hv6 ehv6
  refine r_aload_n C dX0_init_19 0 rfl ?_
  refine r_bipush (v := 120) C dX0_init_20 (by decide) ?_
  refine r_newJ C hw.1 hw.2.1 dX0_init_22 (gm1 (List.mem_of_getElem? (i := 134) rfl) rfl) ?_
  replace hw := hw.2.2
  refine r_topn fun hv7 rv8 ehv7 erv8 => ?_
  replace hw := hw hv7 rv8 ehv7 erv8
  refine r_putPF C ff_RX0_18_0 hnm hw.1 (fun _ _ _ => rfl) dX0_init_24 ?_
  replace hw := hw.2
  refine r_toph fun hv9 ehv9 => ?_
  replace hw := hw hv9 ehv9
  refine r_aload_n C dX0_init_27 0 rfl ?_
  refine r_sipush (v := 384) C dX0_init_28 (by decide) ?_
  refine r_newI C hw.1 hw.2.1 dX0_init_31 (gm1 (List.mem_of_getElem? (i := 133) rfl) rfl) ?_
  replace hw := hw.2.2
  refine r_topn fun hv10 rv11 ehv10 erv11 => ?_
  replace hw := hw hv10 rv11 ehv10 erv11
  refine r_putPF C ff_RX0_22_0 hnm hw.1 (fun _ _ _ => rfl) dX0_init_33 ?_
  replace hw := hw.2
  refine r_toph fun hv12 ehv12 => ?_
  replace hw := hw hv12 ehv12
  refine r_aload_n C dX0_init_36 0 rfl ?_
  refine r_sipush (v := 600) C dX0_init_37 (by decide) ?_
  refine r_newI C hw.1 hw.2.1 dX0_init_40 (gm1 (List.mem_of_getElem? (i := 133) rfl) rfl) ?_
  replace hw := hw.2.2
  refine r_topn fun hv13 rv14 ehv13 erv14 => ?_
  replace hw := hw hv13 rv14 ehv13 erv14
  refine r_putPF C ff_RX0_25_0 hnm hw.1 (fun _ _ _ => rfl) dX0_init_42 ?_
  replace hw := hw.2
  refine r_toph fun hv15 ehv15 => ?_
  replace hw := hw hv15 ehv15
  refine r_aload_n C dX0_init_45 0 rfl ?_
  refine r_sipush (v := 360) C dX0_init_46 (by decide) ?_
  refine r_newJ C hw.1 hw.2.1 dX0_init_49 (gm1 (List.mem_of_getElem? (i := 134) rfl) rfl) ?_
  replace hw := hw.2.2
  refine r_topn fun hv16 rv17 ehv16 erv17 => ?_
  replace hw := hw hv16 rv17 ehv16 erv17
  refine r_putPF C ff_RX0_28_0 hnm hw.1 (fun _ _ _ => rfl) dX0_init_51 ?_
  replace hw := hw.2
  refine r_toph fun hv18 ehv18 => ?_
  replace hw := hw hv18 ehv18
  refine r_aload_n C dX0_init_54 0 rfl ?_
  refine r_sipush (v := 4800) C dX0_init_55 (by decide) ?_
  refine r_newI C hw.1 hw.2.1 dX0_init_58 (gm1 (List.mem_of_getElem? (i := 133) rfl) rfl) ?_
  replace hw := hw.2.2
  refine r_topn fun hv19 rv20 ehv19 erv20 => ?_
  replace hw := hw hv19 rv20 ehv19 erv20
  refine r_putPF C ff_RX0_31_0 hnm hw.1 (fun _ _ _ => rfl) dX0_init_60 ?_
  replace hw := hw.2
  refine r_toph fun hv21 ehv21 => ?_
  replace hw := hw hv21 ehv21
  refine r_aload_n C dX0_init_63 0 rfl ?_
  refine r_bipush (v := 8) C dX0_init_64 (by decide) ?_
  refine r_newJ C hw.1 hw.2.1 dX0_init_66 (gm1 (List.mem_of_getElem? (i := 134) rfl) rfl) ?_
  replace hw := hw.2.2
  refine r_topn fun hv22 rv23 ehv22 erv23 => ?_
  replace hw := hw hv22 rv23 ehv22 erv23
  refine r_putPF C ff_RX0_34_0 hnm hw.1 (fun _ _ _ => rfl) dX0_init_68 ?_
  replace hw := hw.2
  refine r_toph fun hv24 ehv24 => ?_
  replace hw := hw hv24 ehv24
  refine r_aload_n C dX0_init_71 0 rfl ?_
  refine r_aload_n C dX0_init_72 1 rfl ?_
  refine r_putP C fp_RX0_37_0 hw.1 (fun _ _ _ => rfl) dX0_init_73 ?_
  replace hw := hw.2
  refine r_toph fun hv25 ehv25 => ?_
  replace hw := hw hv25 ehv25
  exact r_vret C hr dX0_init_76 hw
theorem dX1_wideAt_0 : decode cX1_wideAt 0 = .ok (.iload_n 2, 1) := by decide +kernel
theorem dX1_wideAt_1 : decode cX1_wideAt 1 = .ok (.bipush 64, 2) := by decide +kernel
theorem dX1_wideAt_3 : decode cX1_wideAt 3 = .ok (.if_icmp .ge 12, 3) := by decide +kernel
theorem dX1_wideAt_6 : decode cX1_wideAt 6 = .ok (.aload_n 0, 1) := by decide +kernel
theorem dX1_wideAt_7 : decode cX1_wideAt 7 = .ok (.getfield 25, 3) := by decide +kernel
theorem dX1_wideAt_10 : decode cX1_wideAt 10 = .ok (.iload_n 1, 1) := by decide +kernel
theorem dX1_wideAt_11 : decode cX1_wideAt 11 = .ok (.iaload, 1) := by decide +kernel
theorem dX1_wideAt_12 : decode cX1_wideAt 12 = .ok (.goto 9, 3) := by decide +kernel
theorem dX1_wideAt_15 : decode cX1_wideAt 15 = .ok (.aload_n 0, 1) := by decide +kernel
theorem dX1_wideAt_16 : decode cX1_wideAt 16 = .ok (.getfield 28, 3) := by decide +kernel
theorem dX1_wideAt_19 : decode cX1_wideAt 19 = .ok (.iload_n 1, 1) := by decide +kernel
theorem dX1_wideAt_20 : decode cX1_wideAt 20 = .ok (.iaload, 1) := by decide +kernel
theorem dX1_wideAt_21 : decode cX1_wideAt 21 = .ok (.ireturn, 1) := by decide +kernel
def wp_X1_wideAt (h : AH) (a0 : Nat) (x1 : Int32) (x2 : Int32) (post : AH → Int32 → Prop) : Prop := (64 ≤ x2 → ((ob h a0 1) ∧ (∃ rv1, aP h a0 8 = some rv1 ∧ ((ob h rv1 13) ∧ ((vp_in x1 (aL h rv1)) ∧ (post h (aI h rv1 x1.toNatClampNeg))))))) ∧ (¬ 64 ≤ x2 → ((ob h a0 1) ∧ (∃ rv2, aP h a0 7 = some rv2 ∧ ((ob h rv2 13) ∧ ((vp_in x1 (aL h rv2)) ∧ (post h (aI h rv2 x1.toNatClampNeg)))))))
set_option maxRecDepth 100000 in
theorem c_X1_wideAt (G : GG) (h : AH) (a0 : Nat) (x1 : Int32) (x2 : Int32) (post : AH → Int32 → Prop) (hw : wp_X1_wideAt h a0 x1 x2 post) : MC G yX1_wideAt cX1_wideAt 3 (some .int) 0 0 h [.ref (G.1 + a0), .int x1, .int x2] (pI post) := by
  refine MC.of (lv := [(0, .ref (G.1 + a0)), (1, .int x1), (2, .int x2)]) (by decide) (Nat.le_of_ble_eq_true rfl) rfl fun p l e R s m args below meth c C hr hnm => ?_
  unfold wp_X1_wideAt at hw
  refine r_iload_n C dX1_wideAt_0 2 rfl ?_
  refine r_bipush (v := 64) C dX1_wideAt_1 (by decide) ?_
  refine r_icmp_ge C dX1_wideAt_3 15 (by decide) (fun hc => ?_) (fun hc => ?_)
  · replace hw := hw.1 hc
    refine r_aload_n C dX1_wideAt_15 0 rfl ?_
    have hob := hw.1
    obtain ⟨rv1, hp, hw⟩ := hw.2
    refine r_getP C fl_RX1_28_1 hob hp (fun _ _ _ => rfl) dX1_wideAt_16 ?_
    refine r_iload_n C dX1_wideAt_19 1 rfl ?_
    refine r_iaload C hw.1 hw.2.1 dX1_wideAt_20 ?_
    replace hw := hw.2.2
    exact r_iret C hr dX1_wideAt_21 hw
  · replace hw := hw.2 hc
    refine r_aload_n C dX1_wideAt_6 0 rfl ?_
    have hob := hw.1
    obtain ⟨rv2, hp, hw⟩ := hw.2
    refine r_getP C fl_RX1_25_1 hob hp (fun _ _ _ => rfl) dX1_wideAt_7 ?_
    refine r_iload_n C dX1_wideAt_10 1 rfl ?_
    refine r_iaload C hw.1 hw.2.1 dX1_wideAt_11 ?_
    replace hw := hw.2.2
    refine r_goto C dX1_wideAt_12 21 (by decide) ?_
    exact r_iret C hr dX1_wideAt_21 hw
theorem dX1_highAt_0 : decode cX1_highAt 0 = .ok (.iload_n 2, 1) := by decide +kernel
theorem dX1_highAt_1 : decode cX1_highAt 1 = .ok (.bipush 64, 2) := by decide +kernel
theorem dX1_highAt_3 : decode cX1_highAt 3 = .ok (.if_icmp .ge 12, 3) := by decide +kernel
theorem dX1_highAt_6 : decode cX1_highAt 6 = .ok (.aload_n 0, 1) := by decide +kernel
theorem dX1_highAt_7 : decode cX1_highAt 7 = .ok (.getfield 28, 3) := by decide +kernel
theorem dX1_highAt_10 : decode cX1_highAt 10 = .ok (.iload_n 1, 1) := by decide +kernel
theorem dX1_highAt_11 : decode cX1_highAt 11 = .ok (.iaload, 1) := by decide +kernel
theorem dX1_highAt_12 : decode cX1_highAt 12 = .ok (.goto 9, 3) := by decide +kernel
theorem dX1_highAt_15 : decode cX1_highAt 15 = .ok (.aload_n 0, 1) := by decide +kernel
theorem dX1_highAt_16 : decode cX1_highAt 16 = .ok (.getfield 25, 3) := by decide +kernel
theorem dX1_highAt_19 : decode cX1_highAt 19 = .ok (.iload_n 1, 1) := by decide +kernel
theorem dX1_highAt_20 : decode cX1_highAt 20 = .ok (.iaload, 1) := by decide +kernel
theorem dX1_highAt_21 : decode cX1_highAt 21 = .ok (.ireturn, 1) := by decide +kernel
def wp_X1_highAt (h : AH) (a0 : Nat) (x1 : Int32) (x2 : Int32) (post : AH → Int32 → Prop) : Prop := (64 ≤ x2 → ((ob h a0 1) ∧ (∃ rv1, aP h a0 7 = some rv1 ∧ ((ob h rv1 13) ∧ ((vp_in x1 (aL h rv1)) ∧ (post h (aI h rv1 x1.toNatClampNeg))))))) ∧ (¬ 64 ≤ x2 → ((ob h a0 1) ∧ (∃ rv2, aP h a0 8 = some rv2 ∧ ((ob h rv2 13) ∧ ((vp_in x1 (aL h rv2)) ∧ (post h (aI h rv2 x1.toNatClampNeg)))))))
set_option maxRecDepth 100000 in
theorem c_X1_highAt (G : GG) (h : AH) (a0 : Nat) (x1 : Int32) (x2 : Int32) (post : AH → Int32 → Prop) (hw : wp_X1_highAt h a0 x1 x2 post) : MC G yX1_highAt cX1_highAt 3 (some .int) 0 0 h [.ref (G.1 + a0), .int x1, .int x2] (pI post) := by
  refine MC.of (lv := [(0, .ref (G.1 + a0)), (1, .int x1), (2, .int x2)]) (by decide) (Nat.le_of_ble_eq_true rfl) rfl fun p l e R s m args below meth c C hr hnm => ?_
  unfold wp_X1_highAt at hw
  refine r_iload_n C dX1_highAt_0 2 rfl ?_
  refine r_bipush (v := 64) C dX1_highAt_1 (by decide) ?_
  refine r_icmp_ge C dX1_highAt_3 15 (by decide) (fun hc => ?_) (fun hc => ?_)
  · replace hw := hw.1 hc
    refine r_aload_n C dX1_highAt_15 0 rfl ?_
    have hob := hw.1
    obtain ⟨rv1, hp, hw⟩ := hw.2
    refine r_getP C fl_RX1_25_1 hob hp (fun _ _ _ => rfl) dX1_highAt_16 ?_
    refine r_iload_n C dX1_highAt_19 1 rfl ?_
    refine r_iaload C hw.1 hw.2.1 dX1_highAt_20 ?_
    replace hw := hw.2.2
    exact r_iret C hr dX1_highAt_21 hw
  · replace hw := hw.2 hc
    refine r_aload_n C dX1_highAt_6 0 rfl ?_
    have hob := hw.1
    obtain ⟨rv2, hp, hw⟩ := hw.2
    refine r_getP C fl_RX1_28_1 hob hp (fun _ _ _ => rfl) dX1_highAt_7 ?_
    refine r_iload_n C dX1_highAt_10 1 rfl ?_
    refine r_iaload C hw.1 hw.2.1 dX1_highAt_11 ?_
    replace hw := hw.2.2
    refine r_goto C dX1_highAt_12 21 (by decide) ?_
    exact r_iret C hr dX1_highAt_21 hw
theorem dX1_holds_0 : decode cX1_holds 0 = .ok (.iload_n 2, 1) := by decide +kernel
theorem dX1_holds_1 : decode cX1_holds 1 = .ok (.bipush 7, 2) := by decide +kernel
theorem dX1_holds_3 : decode cX1_holds 3 = .ok (.iand, 1) := by decide +kernel
theorem dX1_holds_4 : decode cX1_holds 4 = .ok (.aload_n 0, 1) := by decide +kernel
theorem dX1_holds_5 : decode cX1_holds 5 = .ok (.iload_n 1, 1) := by decide +kernel
theorem dX1_holds_6 : decode cX1_holds 6 = .ok (.iload_n 2, 1) := by decide +kernel
theorem dX1_holds_7 : decode cX1_holds 7 = .ok (.invokevirtual 101, 3) := by decide +kernel
theorem dX1_holds_10 : decode cX1_holds 10 = .ok (.iadd, 1) := by decide +kernel
theorem dX1_holds_11 : decode cX1_holds 11 = .ok (.aload_n 0, 1) := by decide +kernel
theorem dX1_holds_12 : decode cX1_holds 12 = .ok (.getfield 60, 3) := by decide +kernel
theorem dX1_holds_15 : decode cX1_holds 15 = .ok (.if_icmp .gt 27, 3) := by decide +kernel
theorem dX1_holds_18 : decode cX1_holds 18 = .ok (.iload_n 2, 1) := by decide +kernel
theorem dX1_holds_19 : decode cX1_holds 19 = .ok (.iconst 3, 1) := by decide +kernel
theorem dX1_holds_20 : decode cX1_holds 20 = .ok (.ishr, 1) := by decide +kernel
theorem dX1_holds_21 : decode cX1_holds 21 = .ok (.bipush 7, 2) := by decide +kernel
theorem dX1_holds_23 : decode cX1_holds 23 = .ok (.iand, 1) := by decide +kernel
theorem dX1_holds_24 : decode cX1_holds 24 = .ok (.aload_n 0, 1) := by decide +kernel
theorem dX1_holds_25 : decode cX1_holds 25 = .ok (.iload_n 1, 1) := by decide +kernel
theorem dX1_holds_26 : decode cX1_holds 26 = .ok (.iload_n 2, 1) := by decide +kernel
theorem dX1_holds_27 : decode cX1_holds 27 = .ok (.invokevirtual 105, 3) := by decide +kernel
theorem dX1_holds_30 : decode cX1_holds 30 = .ok (.iadd, 1) := by decide +kernel
theorem dX1_holds_31 : decode cX1_holds 31 = .ok (.aload_n 0, 1) := by decide +kernel
theorem dX1_holds_32 : decode cX1_holds 32 = .ok (.getfield 64, 3) := by decide +kernel
theorem dX1_holds_35 : decode cX1_holds 35 = .ok (.if_icmp .gt 7, 3) := by decide +kernel
theorem dX1_holds_38 : decode cX1_holds 38 = .ok (.iconst 1, 1) := by decide +kernel
theorem dX1_holds_39 : decode cX1_holds 39 = .ok (.goto 4, 3) := by decide +kernel
theorem dX1_holds_42 : decode cX1_holds 42 = .ok (.iconst 0, 1) := by decide +kernel
theorem dX1_holds_43 : decode cX1_holds 43 = .ok (.ireturn, 1) := by decide +kernel
def wp_X1_holds (h : AH) (a0 : Nat) (x1 : Int32) (x2 : Int32) (post : AH → Int32 → Prop) : Prop := (ob h a0 1) ∧ wp_X1_wideAt h a0 x1 x2 (fun hv1 iv2 => (ob hv1 a0 1) ∧ (((aI hv1 a0 0) < ((x2 &&& (7 : Int32)) + iv2) → (((0 : Int32) = 0 ∨ (0 : Int32) = 1) ∧ post hv1 0)) ∧ (¬ (aI hv1 a0 0) < ((x2 &&& (7 : Int32)) + iv2) → ((ob hv1 a0 1) ∧ wp_X1_highAt hv1 a0 x1 x2 (fun hv3 iv4 => (ob hv3 a0 1) ∧ (((aI hv3 a0 1) < (((x2 >>> ((3 : Int32) &&& 31)) &&& (7 : Int32)) + iv4) → (((0 : Int32) = 0 ∨ (0 : Int32) = 1) ∧ post hv3 0)) ∧ (¬ (aI hv3 a0 1) < (((x2 >>> ((3 : Int32) &&& 31)) &&& (7 : Int32)) + iv4) → (((1 : Int32) = 0 ∨ (1 : Int32) = 1) ∧ post hv3 1))))))))
set_option maxRecDepth 100000 in
theorem c_X1_holds (G : GG) (h : AH) (a0 : Nat) (x1 : Int32) (x2 : Int32) (post : AH → Int32 → Prop) (hw : wp_X1_holds h a0 x1 x2 post) : MC G yX1_holds cX1_holds 3 (some .boolean) 1 22 h [.ref (G.1 + a0), .int x1, .int x2] (pI post) := by
  refine MC.of (lv := [(0, .ref (G.1 + a0)), (1, .int x1), (2, .int x2)]) (by decide) (Nat.le_of_ble_eq_true rfl) rfl fun p l e R s m args below meth c C hr hnm => ?_
  unfold wp_X1_holds at hw
  refine r_iload_n C dX1_holds_0 2 rfl ?_
  refine r_bipush (v := 7) C dX1_holds_1 (by decide) ?_
  refine r_iand C dX1_holds_3 ?_
  refine r_aload_n C dX1_holds_4 0 rfl ?_
  refine r_iload_n C dX1_holds_5 1 rfl ?_
  refine r_iload_n C dX1_holds_6 2 rfl ?_
  have hob := hw.1
  replace hw := hw.2
  refine r_callV C (As := [.int x1, .int x2]) (rest := [.int (x2 &&& (7 : Int32))]) (c_X1_wideAt G h a0 x1 x2 _ hw) yl_X1_wideAt (gm3 (List.mem_of_getElem? (i := 210) rfl) rfl) (gm3 (List.mem_of_getElem? (i := 211) rfl) rfl) (ci := 1) rfl (by decide) (gm3 (List.mem_of_getElem? (i := 212) rfl) rfl) hob (by decide) rfl (Nat.le_of_ble_eq_true rfl) dX1_holds_7 rfl (kI fun hv1 iv2 hw => ?_)
  refine r_iadd C dX1_holds_10 ?_
  refine r_aload_n C dX1_holds_11 0 rfl ?_
  refine r_getI C fl_RX1_60_1 hw.1 (fun _ _ _ => rfl) dX1_holds_12 ?_
  replace hw := hw.2
  refine r_icmp_gt C dX1_holds_15 42 (by decide) (fun hc => ?_) (fun hc => ?_)
  · replace hw := hw.1 hc
    refine r_iconst (v := 0) C dX1_holds_42 (by decide) ?_
    exact r_zret C hr dX1_holds_43 hw.1 hw.2
  · replace hw := hw.2 hc
    refine r_iload_n C dX1_holds_18 2 rfl ?_
    refine r_iconst (v := 3) C dX1_holds_19 (by decide) ?_
    refine r_ishr C dX1_holds_20 ?_
    refine r_bipush (v := 7) C dX1_holds_21 (by decide) ?_
    refine r_iand C dX1_holds_23 ?_
    refine r_aload_n C dX1_holds_24 0 rfl ?_
    refine r_iload_n C dX1_holds_25 1 rfl ?_
    refine r_iload_n C dX1_holds_26 2 rfl ?_
    have hob := hw.1
    replace hw := hw.2
    refine r_callV C (As := [.int x1, .int x2]) (rest := [.int ((x2 >>> ((3 : Int32) &&& 31)) &&& (7 : Int32))]) (c_X1_highAt G hv1 a0 x1 x2 _ hw) yl_X1_highAt (gm3 (List.mem_of_getElem? (i := 214) rfl) rfl) (gm3 (List.mem_of_getElem? (i := 215) rfl) rfl) (ci := 1) rfl (by decide) (gm3 (List.mem_of_getElem? (i := 216) rfl) rfl) hob (by decide) rfl (Nat.le_of_ble_eq_true rfl) dX1_holds_27 rfl (kI fun hv3 iv4 hw => ?_)
    refine r_iadd C dX1_holds_30 ?_
    refine r_aload_n C dX1_holds_31 0 rfl ?_
    refine r_getI C fl_RX1_64_1 hw.1 (fun _ _ _ => rfl) dX1_holds_32 ?_
    replace hw := hw.2
    refine r_icmp_gt C dX1_holds_35 42 (by decide) (fun hc => ?_) (fun hc => ?_)
    · replace hw := hw.1 hc
      refine r_iconst (v := 0) C dX1_holds_42 (by decide) ?_
      exact r_zret C hr dX1_holds_43 hw.1 hw.2
    · replace hw := hw.2 hc
      refine r_iconst (v := 1) C dX1_holds_38 (by decide) ?_
      refine r_goto C dX1_holds_39 43 (by decide) ?_
      exact r_zret C hr dX1_holds_43 hw.1 hw.2
theorem dX11_blockOf_0 : decode cX11_blockOf 0 = .ok (.lconst 1, 1) := by decide +kernel
theorem dX11_blockOf_1 : decode cX11_blockOf 1 = .ok (.iload_n 0, 1) := by decide +kernel
theorem dX11_blockOf_2 : decode cX11_blockOf 2 = .ok (.lshl, 1) := by decide +kernel
theorem dX11_blockOf_3 : decode cX11_blockOf 3 = .ok (.lconst 1, 1) := by decide +kernel
theorem dX11_blockOf_4 : decode cX11_blockOf 4 = .ok (.lsub, 1) := by decide +kernel
theorem dX11_blockOf_5 : decode cX11_blockOf 5 = .ok (.lstore_n 2, 1) := by decide +kernel
theorem dX11_blockOf_6 : decode cX11_blockOf 6 = .ok (.lconst 0, 1) := by decide +kernel
theorem dX11_blockOf_7 : decode cX11_blockOf 7 = .ok (.lstore 4, 2) := by decide +kernel
theorem dX11_blockOf_9 : decode cX11_blockOf 9 = .ok (.iconst 0, 1) := by decide +kernel
theorem dX11_blockOf_10 : decode cX11_blockOf 10 = .ok (.istore 6, 2) := by decide +kernel
theorem dX11_blockOf_12 : decode cX11_blockOf 12 = .ok (.iload 6, 2) := by decide +kernel
theorem dX11_blockOf_14 : decode cX11_blockOf 14 = .ok (.iload_n 1, 1) := by decide +kernel
theorem dX11_blockOf_15 : decode cX11_blockOf 15 = .ok (.if_icmp .ge 21, 3) := by decide +kernel
theorem dX11_blockOf_18 : decode cX11_blockOf 18 = .ok (.lload 4, 2) := by decide +kernel
theorem dX11_blockOf_20 : decode cX11_blockOf 20 = .ok (.lload_n 2, 1) := by decide +kernel
theorem dX11_blockOf_21 : decode cX11_blockOf 21 = .ok (.bipush 8, 2) := by decide +kernel
theorem dX11_blockOf_23 : decode cX11_blockOf 23 = .ok (.iload 6, 2) := by decide +kernel
theorem dX11_blockOf_25 : decode cX11_blockOf 25 = .ok (.imul, 1) := by decide +kernel
theorem dX11_blockOf_26 : decode cX11_blockOf 26 = .ok (.lshl, 1) := by decide +kernel
theorem dX11_blockOf_27 : decode cX11_blockOf 27 = .ok (.lor, 1) := by decide +kernel
theorem dX11_blockOf_28 : decode cX11_blockOf 28 = .ok (.lstore 4, 2) := by decide +kernel
theorem dX11_blockOf_30 : decode cX11_blockOf 30 = .ok (.iinc 6 1, 3) := by decide +kernel
theorem dX11_blockOf_33 : decode cX11_blockOf 33 = .ok (.goto (-21), 3) := by decide +kernel
theorem dX11_blockOf_36 : decode cX11_blockOf 36 = .ok (.lload 4, 2) := by decide +kernel
theorem dX11_blockOf_38 : decode cX11_blockOf 38 = .ok (.lreturn, 1) := by decide +kernel
def wb_X11_blockOf_12 (K12 : AH → Int32 → Int64 → Int64 → Int32 → Prop) (h : AH) (xl1 : Int32) (zl2 : Int64) (zl4 : Int64) (xl6 : Int32)  (post : AH → Int64 → Prop) : Prop := (xl1 ≤ xl6 → (post h zl4)) ∧ (¬ xl1 ≤ xl6 → (∀ jv1 : Int64, jv1 = zl4 ||| (zl2 <<< (((8 : Int32) * xl6).toInt64 &&& 63)) → (∀ iv2 : Int32, iv2 = xl6 + 1 → (K12 h xl1 zl2 jv1 iv2))))
set_option maxRecDepth 100000 in
theorem tb_X11_blockOf_12 {G : GG} {p : Program} {l : Launch} {e : Env} {R : Room} {s : State} {m : MethodId} {args : Array Value} {below : List Frame} {meth : Method} {c : Code} {n0 s0 : Nat} {post : AH → Int64 → Prop} (C : Cx G p R s m args meth c 7 cX11_blockOf RX11 n0 s0 0 0) (hr : meth.sig.returnType = (some .long)) {K12 : AH → Int32 → Int64 → Int64 → Int32 → Prop} (hK12 : ∀ (h : AH) (xl1 : Int32) (zl2 : Int64) (zl4 : Int64) (xl6 : Int32), K12 h xl1 zl2 zl4 xl6 → AW G p l e R s m args below meth c 7 (QM G (pJ post) args s below n0 s0) 12 [(1, .int xl1), (2, .long zl2), (4, .long zl4), (6, .int xl6)] [] h) {h : AH} {xl1 : Int32} {zl2 : Int64} {zl4 : Int64} {xl6 : Int32}  (hw : wb_X11_blockOf_12 K12 h xl1 zl2 zl4 xl6 post) : AW G p l e R s m args below meth c 7 (QM G (pJ post) args s below n0 s0) 12 [(1, .int xl1), (2, .long zl2), (4, .long zl4), (6, .int xl6)] [] h := by
  unfold wb_X11_blockOf_12 at hw
  refine r_iload C dX11_blockOf_12 3 rfl ?_
  refine r_iload_n C dX11_blockOf_14 0 rfl ?_
  refine r_icmp_ge C dX11_blockOf_15 36 (by decide) (fun hc => ?_) (fun hc => ?_)
  · replace hw := hw.1 hc
    refine r_lload C dX11_blockOf_36 2 rfl ?_
    exact r_lret C hr dX11_blockOf_38 hw
  · replace hw := hw.2 hc
    refine r_lload C dX11_blockOf_18 2 rfl ?_
    refine r_lload_n C dX11_blockOf_20 1 rfl ?_
    refine r_bipush (v := 8) C dX11_blockOf_21 (by decide) ?_
    refine r_iload C dX11_blockOf_23 3 rfl ?_
    refine r_imul C dX11_blockOf_25 ?_
    refine r_lshl C dX11_blockOf_26 ?_
    refine r_lor C dX11_blockOf_27 ?_
    refine r_topl fun jv1 ejv1 => ?_
    replace hw := hw jv1 ejv1
    refine r_lstore C dX11_blockOf_28 [(4, .long jv1), (1, .int xl1), (2, .long zl2), (6, .int xl6)] (by decide) rfl ?_
    obtain ⟨iv2, eiv2⟩ : ∃ q : Int32, q = xl6 + 1 := ⟨_, rfl⟩
    replace hw := hw iv2 eiv2
    refine r_iinc C dX11_blockOf_30 3 rfl (by rw [eiv2]; rfl) [(6, .int iv2), (4, .long jv1), (1, .int xl1), (2, .long zl2)] (by decide) rfl ?_
    refine r_goto C dX11_blockOf_33 12 (by decide) ?_
    refine r_sub [2, 3, 1, 0] rfl ?_
    exact hK12 _ _ _ _ _ hw
def wl_X11_blockOf_12  (post : AH → Int64 → Prop) : Nat → AH → Int32 → Int64 → Int64 → Int32 → Prop
  | 0 => fun _ _ _ _ _ => False
  | n + 1 => fun h xl1 zl2 zl4 xl6 => wb_X11_blockOf_12  (wl_X11_blockOf_12  post n) h xl1 zl2 zl4 xl6 post
theorem tl_X11_blockOf_12 {G : GG} {p : Program} {l : Launch} {e : Env} {R : Room} {s : State} {m : MethodId} {args : Array Value} {below : List Frame} {meth : Method} {c : Code} {n0 s0 : Nat} {post : AH → Int64 → Prop} (C : Cx G p R s m args meth c 7 cX11_blockOf RX11 n0 s0 0 0) (hr : meth.sig.returnType = (some .long))   : ∀ (n : Nat) (h : AH) (xl1 : Int32) (zl2 : Int64) (zl4 : Int64) (xl6 : Int32), wl_X11_blockOf_12  post n h xl1 zl2 zl4 xl6 → AW G p l e R s m args below meth c 7 (QM G (pJ post) args s below n0 s0) 12 [(1, .int xl1), (2, .long zl2), (4, .long zl4), (6, .int xl6)] [] h := by
  intro n
  induction n with
  | zero => intro h xl1 zl2 zl4 xl6 hw; exact hw.elim
  | succ n ih => intro h xl1 zl2 zl4 xl6 hw; exact tb_X11_blockOf_12 C hr  ih hw
def wp_X11_blockOf (h : AH) (x0 : Int32) (x1 : Int32) (post : AH → Int64 → Prop) : Prop := ∀ jv1 : Int64, jv1 = ((1 : Int64) <<< (x0.toInt64 &&& 63)) - (1 : Int64) → (∃ n, wl_X11_blockOf_12  post n h x1 jv1 0 0)
set_option maxRecDepth 100000 in
theorem c_X11_blockOf (G : GG) (h : AH) (x0 : Int32) (x1 : Int32) (post : AH → Int64 → Prop) (hw : wp_X11_blockOf h x0 x1 post) : MC G yX11_blockOf cX11_blockOf 7 (some .long) 0 0 h [.int x0, .int x1] (pJ post) := by
  refine MC.of (lv := [(0, .int x0), (1, .int x1)]) (by decide) (Nat.le_of_ble_eq_true rfl) rfl fun p l e R s m args below meth c C hr hnm => ?_
  unfold wp_X11_blockOf at hw
  refine r_lconst (v := 1) C dX11_blockOf_0 (by decide) ?_
  refine r_iload_n C dX11_blockOf_1 0 rfl ?_
  refine r_lshl C dX11_blockOf_2 ?_
  refine r_lconst (v := 1) C dX11_blockOf_3 (by decide) ?_
  refine r_lsub C dX11_blockOf_4 ?_
  refine r_topl fun jv1 ejv1 => ?_
  replace hw := hw jv1 ejv1
  refine r_lstore_n C dX11_blockOf_5 [(2, .long jv1), (0, .int x0), (1, .int x1)] (by decide) rfl ?_
  refine r_lconst (v := 0) C dX11_blockOf_6 (by decide) ?_
  refine r_lstore C dX11_blockOf_7 [(4, .long 0), (2, .long jv1), (0, .int x0), (1, .int x1)] (by decide) rfl ?_
  refine r_iconst (v := 0) C dX11_blockOf_9 (by decide) ?_
  refine r_istore C dX11_blockOf_10 [(6, .int 0), (4, .long 0), (2, .long jv1), (0, .int x0), (1, .int x1)] (by decide) rfl ?_
  refine r_sub [4, 2, 1, 0] rfl ?_
  obtain ⟨n, hw⟩ := hw
  exact tl_X11_blockOf_12 C hr  n _ _ _ _ _ hw
theorem dX1_coverAt_0 : decode cX1_coverAt 0 = .ok (.aload_n 0, 1) := by decide +kernel
theorem dX1_coverAt_1 : decode cX1_coverAt 1 = .ok (.iload_n 1, 1) := by decide +kernel
theorem dX1_coverAt_2 : decode cX1_coverAt 2 = .ok (.iload_n 2, 1) := by decide +kernel
theorem dX1_coverAt_3 : decode cX1_coverAt 3 = .ok (.invokevirtual 101, 3) := by decide +kernel
theorem dX1_coverAt_6 : decode cX1_coverAt 6 = .ok (.aload_n 0, 1) := by decide +kernel
theorem dX1_coverAt_7 : decode cX1_coverAt 7 = .ok (.iload_n 1, 1) := by decide +kernel
theorem dX1_coverAt_8 : decode cX1_coverAt 8 = .ok (.iload_n 2, 1) := by decide +kernel
theorem dX1_coverAt_9 : decode cX1_coverAt 9 = .ok (.invokevirtual 105, 3) := by decide +kernel
theorem dX1_coverAt_12 : decode cX1_coverAt 12 = .ok (.invokestatic 108, 3) := by decide +kernel
theorem dX1_coverAt_15 : decode cX1_coverAt 15 = .ok (.iload_n 2, 1) := by decide +kernel
theorem dX1_coverAt_16 : decode cX1_coverAt 16 = .ok (.bipush 63, 2) := by decide +kernel
theorem dX1_coverAt_18 : decode cX1_coverAt 18 = .ok (.iand, 1) := by decide +kernel
theorem dX1_coverAt_19 : decode cX1_coverAt 19 = .ok (.lshl, 1) := by decide +kernel
theorem dX1_coverAt_20 : decode cX1_coverAt 20 = .ok (.lreturn, 1) := by decide +kernel
def wp_X1_coverAt (h : AH) (a0 : Nat) (x1 : Int32) (x2 : Int32) (post : AH → Int64 → Prop) : Prop := (ob h a0 1) ∧ wp_X1_wideAt h a0 x1 x2 (fun hv1 iv2 => (ob hv1 a0 1) ∧ wp_X1_highAt hv1 a0 x1 x2 (fun hv3 iv4 => wp_X11_blockOf hv3 iv2 iv4 (fun hv5 jv6 => post hv5 (jv6 <<< ((x2 &&& (63 : Int32)).toInt64 &&& 63)))))
set_option maxRecDepth 100000 in
theorem c_X1_coverAt (G : GG) (h : AH) (a0 : Nat) (x1 : Int32) (x2 : Int32) (post : AH → Int64 → Prop) (hw : wp_X1_coverAt h a0 x1 x2 post) : MC G yX1_coverAt cX1_coverAt 3 (some .long) 1 26 h [.ref (G.1 + a0), .int x1, .int x2] (pJ post) := by
  refine MC.of (lv := [(0, .ref (G.1 + a0)), (1, .int x1), (2, .int x2)]) (by decide) (Nat.le_of_ble_eq_true rfl) rfl fun p l e R s m args below meth c C hr hnm => ?_
  unfold wp_X1_coverAt at hw
  refine r_aload_n C dX1_coverAt_0 0 rfl ?_
  refine r_iload_n C dX1_coverAt_1 1 rfl ?_
  refine r_iload_n C dX1_coverAt_2 2 rfl ?_
  have hob := hw.1
  replace hw := hw.2
  refine r_callV C (As := [.int x1, .int x2]) (rest := []) (c_X1_wideAt G h a0 x1 x2 _ hw) yl_X1_wideAt (gm3 (List.mem_of_getElem? (i := 210) rfl) rfl) (gm3 (List.mem_of_getElem? (i := 211) rfl) rfl) (ci := 1) rfl (by decide) (gm3 (List.mem_of_getElem? (i := 212) rfl) rfl) hob (by decide) rfl (Nat.le_of_ble_eq_true rfl) dX1_coverAt_3 rfl (kI fun hv1 iv2 hw => ?_)
  refine r_aload_n C dX1_coverAt_6 0 rfl ?_
  refine r_iload_n C dX1_coverAt_7 1 rfl ?_
  refine r_iload_n C dX1_coverAt_8 2 rfl ?_
  have hob := hw.1
  replace hw := hw.2
  refine r_callV C (As := [.int x1, .int x2]) (rest := [.int iv2]) (c_X1_highAt G hv1 a0 x1 x2 _ hw) yl_X1_highAt (gm3 (List.mem_of_getElem? (i := 214) rfl) rfl) (gm3 (List.mem_of_getElem? (i := 215) rfl) rfl) (ci := 1) rfl (by decide) (gm3 (List.mem_of_getElem? (i := 216) rfl) rfl) hob (by decide) rfl (Nat.le_of_ble_eq_true rfl) dX1_coverAt_9 rfl (kI fun hv3 iv4 hw => ?_)
  refine r_callSN C (As := [.int iv2, .int iv4]) (rest := []) (c_X11_blockOf G hv3 iv2 iv4 _ hw) yl_X11_blockOf (List.mem_of_getElem? (i := 6) rfl) (gm3 (List.mem_of_getElem? (i := 227) rfl) rfl) (by decide) rfl (Nat.le_of_ble_eq_true rfl) dX1_coverAt_12 rfl (kJ fun hv5 jv6 hw => ?_)
  refine r_iload_n C dX1_coverAt_15 2 rfl ?_
  refine r_bipush (v := 63) C dX1_coverAt_16 (by decide) ?_
  refine r_iand C dX1_coverAt_18 ?_
  refine r_lshl C dX1_coverAt_19 ?_
  exact r_lret C hr dX1_coverAt_20 hw
theorem dX0_listOf_0 : decode cX0_listOf 0 = .ok (.aload_n 0, 1) := by decide +kernel
theorem dX0_listOf_1 : decode cX0_listOf 1 = .ok (.getfield 37, 3) := by decide +kernel
theorem dX0_listOf_4 : decode cX0_listOf 4 = .ok (.getfield 54, 3) := by decide +kernel
theorem dX0_listOf_7 : decode cX0_listOf 7 = .ok (.iload_n 1, 1) := by decide +kernel
theorem dX0_listOf_8 : decode cX0_listOf 8 = .ok (.iaload, 1) := by decide +kernel
theorem dX0_listOf_9 : decode cX0_listOf 9 = .ok (.aload_n 0, 1) := by decide +kernel
theorem dX0_listOf_10 : decode cX0_listOf 10 = .ok (.getfield 37, 3) := by decide +kernel
theorem dX0_listOf_13 : decode cX0_listOf 13 = .ok (.getfield 57, 3) := by decide +kernel
theorem dX0_listOf_16 : decode cX0_listOf 16 = .ok (.iload_n 1, 1) := by decide +kernel
theorem dX0_listOf_17 : decode cX0_listOf 17 = .ok (.iaload, 1) := by decide +kernel
theorem dX0_listOf_18 : decode cX0_listOf 18 = .ok (.if_icmp .ne 8, 3) := by decide +kernel
theorem dX0_listOf_21 : decode cX0_listOf 21 = .ok (.bipush 64, 2) := by decide +kernel
theorem dX0_listOf_23 : decode cX0_listOf 23 = .ok (.goto 6, 3) := by decide +kernel
theorem dX0_listOf_26 : decode cX0_listOf 26 = .ok (.sipush 128, 3) := by decide +kernel
theorem dX0_listOf_29 : decode cX0_listOf 29 = .ok (.istore_n 2, 1) := by decide +kernel
theorem dX0_listOf_30 : decode cX0_listOf 30 = .ok (.iconst 0, 1) := by decide +kernel
theorem dX0_listOf_31 : decode cX0_listOf 31 = .ok (.istore_n 3, 1) := by decide +kernel
theorem dX0_listOf_32 : decode cX0_listOf 32 = .ok (.iload_n 3, 1) := by decide +kernel
theorem dX0_listOf_33 : decode cX0_listOf 33 = .ok (.iload_n 2, 1) := by decide +kernel
theorem dX0_listOf_34 : decode cX0_listOf 34 = .ok (.if_icmp .ge 97, 3) := by decide +kernel
theorem dX0_listOf_37 : decode cX0_listOf 37 = .ok (.aload_n 0, 1) := by decide +kernel
theorem dX0_listOf_38 : decode cX0_listOf 38 = .ok (.getfield 37, 3) := by decide +kernel
theorem dX0_listOf_41 : decode cX0_listOf 41 = .ok (.iload_n 1, 1) := by decide +kernel
theorem dX0_listOf_42 : decode cX0_listOf 42 = .ok (.iload_n 3, 1) := by decide +kernel
theorem dX0_listOf_43 : decode cX0_listOf 43 = .ok (.invokevirtual 60, 3) := by decide +kernel
theorem dX0_listOf_46 : decode cX0_listOf 46 = .ok (.ifCond .eq 79, 3) := by decide +kernel
theorem dX0_listOf_49 : decode cX0_listOf 49 = .ok (.aload_n 0, 1) := by decide +kernel
theorem dX0_listOf_50 : decode cX0_listOf 50 = .ok (.getfield 11, 3) := by decide +kernel
theorem dX0_listOf_53 : decode cX0_listOf 53 = .ok (.iload_n 1, 1) := by decide +kernel
theorem dX0_listOf_54 : decode cX0_listOf 54 = .ok (.iaload, 1) := by decide +kernel
theorem dX0_listOf_55 : decode cX0_listOf 55 = .ok (.bipush 40, 2) := by decide +kernel
theorem dX0_listOf_57 : decode cX0_listOf 57 = .ok (.if_icmp .ge 68, 3) := by decide +kernel
theorem dX0_listOf_60 : decode cX0_listOf 60 = .ok (.iload_n 1, 1) := by decide +kernel
theorem dX0_listOf_61 : decode cX0_listOf 61 = .ok (.bipush 40, 2) := by decide +kernel
theorem dX0_listOf_63 : decode cX0_listOf 63 = .ok (.imul, 1) := by decide +kernel
theorem dX0_listOf_64 : decode cX0_listOf 64 = .ok (.aload_n 0, 1) := by decide +kernel
theorem dX0_listOf_65 : decode cX0_listOf 65 = .ok (.getfield 11, 3) := by decide +kernel
theorem dX0_listOf_68 : decode cX0_listOf 68 = .ok (.iload_n 1, 1) := by decide +kernel
theorem dX0_listOf_69 : decode cX0_listOf 69 = .ok (.iaload, 1) := by decide +kernel
theorem dX0_listOf_70 : decode cX0_listOf 70 = .ok (.iadd, 1) := by decide +kernel
theorem dX0_listOf_71 : decode cX0_listOf 71 = .ok (.istore 4, 2) := by decide +kernel
theorem dX0_listOf_73 : decode cX0_listOf 73 = .ok (.aload_n 0, 1) := by decide +kernel
theorem dX0_listOf_74 : decode cX0_listOf 74 = .ok (.getfield 15, 3) := by decide +kernel
theorem dX0_listOf_77 : decode cX0_listOf 77 = .ok (.iload 4, 2) := by decide +kernel
theorem dX0_listOf_79 : decode cX0_listOf 79 = .ok (.iload_n 3, 1) := by decide +kernel
theorem dX0_listOf_80 : decode cX0_listOf 80 = .ok (.iastore, 1) := by decide +kernel
theorem dX0_listOf_81 : decode cX0_listOf 81 = .ok (.aload_n 0, 1) := by decide +kernel
theorem dX0_listOf_82 : decode cX0_listOf 82 = .ok (.getfield 18, 3) := by decide +kernel
theorem dX0_listOf_85 : decode cX0_listOf 85 = .ok (.iload 4, 2) := by decide +kernel
theorem dX0_listOf_87 : decode cX0_listOf 87 = .ok (.aload_n 0, 1) := by decide +kernel
theorem dX0_listOf_88 : decode cX0_listOf 88 = .ok (.getfield 37, 3) := by decide +kernel
theorem dX0_listOf_91 : decode cX0_listOf 91 = .ok (.iload_n 1, 1) := by decide +kernel
theorem dX0_listOf_92 : decode cX0_listOf 92 = .ok (.iload_n 3, 1) := by decide +kernel
theorem dX0_listOf_93 : decode cX0_listOf 93 = .ok (.invokevirtual 64, 3) := by decide +kernel
theorem dX0_listOf_96 : decode cX0_listOf 96 = .ok (.lastore, 1) := by decide +kernel
theorem dX0_listOf_97 : decode cX0_listOf 97 = .ok (.aload_n 0, 1) := by decide +kernel
theorem dX0_listOf_98 : decode cX0_listOf 98 = .ok (.getfield 22, 3) := by decide +kernel
theorem dX0_listOf_101 : decode cX0_listOf 101 = .ok (.iload_n 1, 1) := by decide +kernel
theorem dX0_listOf_102 : decode cX0_listOf 102 = .ok (.sipush 128, 3) := by decide +kernel
theorem dX0_listOf_105 : decode cX0_listOf 105 = .ok (.imul, 1) := by decide +kernel
theorem dX0_listOf_106 : decode cX0_listOf 106 = .ok (.iload_n 3, 1) := by decide +kernel
theorem dX0_listOf_107 : decode cX0_listOf 107 = .ok (.iadd, 1) := by decide +kernel
theorem dX0_listOf_108 : decode cX0_listOf 108 = .ok (.aload_n 0, 1) := by decide +kernel
theorem dX0_listOf_109 : decode cX0_listOf 109 = .ok (.getfield 11, 3) := by decide +kernel
theorem dX0_listOf_112 : decode cX0_listOf 112 = .ok (.iload_n 1, 1) := by decide +kernel
theorem dX0_listOf_113 : decode cX0_listOf 113 = .ok (.iaload, 1) := by decide +kernel
theorem dX0_listOf_114 : decode cX0_listOf 114 = .ok (.iastore, 1) := by decide +kernel
theorem dX0_listOf_115 : decode cX0_listOf 115 = .ok (.aload_n 0, 1) := by decide +kernel
theorem dX0_listOf_116 : decode cX0_listOf 116 = .ok (.getfield 11, 3) := by decide +kernel
theorem dX0_listOf_119 : decode cX0_listOf 119 = .ok (.iload_n 1, 1) := by decide +kernel
theorem dX0_listOf_120 : decode cX0_listOf 120 = .ok (.dup2, 1) := by decide +kernel
theorem dX0_listOf_121 : decode cX0_listOf 121 = .ok (.iaload, 1) := by decide +kernel
theorem dX0_listOf_122 : decode cX0_listOf 122 = .ok (.iconst 1, 1) := by decide +kernel
theorem dX0_listOf_123 : decode cX0_listOf 123 = .ok (.iadd, 1) := by decide +kernel
theorem dX0_listOf_124 : decode cX0_listOf 124 = .ok (.iastore, 1) := by decide +kernel
theorem dX0_listOf_125 : decode cX0_listOf 125 = .ok (.iinc 3 1, 3) := by decide +kernel
theorem dX0_listOf_128 : decode cX0_listOf 128 = .ok (.goto (-96), 3) := by decide +kernel
theorem dX0_listOf_131 : decode cX0_listOf 131 = .ok (.return_, 1) := by decide +kernel
def wb_X0_listOf_125 (K32 : AH → Nat → Int32 → Int32 → Int32 → Prop) (h : AH) (al0 : Nat) (xl1 : Int32) (xl2 : Int32) (xl3 : Int32)  (post : AH → Prop) : Prop := ∀ iv1 : Int32, iv1 = xl3 + 1 → (K32 h al0 xl1 xl2 iv1)
set_option maxRecDepth 100000 in
theorem tb_X0_listOf_125 {G : GG} {p : Program} {l : Launch} {e : Env} {R : Room} {s : State} {m : MethodId} {args : Array Value} {below : List Frame} {meth : Method} {c : Code} {n0 s0 : Nat} {post : AH → Prop} (C : Cx G p R s m args meth c 5 cX0_listOf RX0 n0 s0 2 48) (hr : meth.sig.returnType = none) {K32 : AH → Nat → Int32 → Int32 → Int32 → Prop} (hK32 : ∀ (h : AH) (al0 : Nat) (xl1 : Int32) (xl2 : Int32) (xl3 : Int32), K32 h al0 xl1 xl2 xl3 → AW G p l e R s m args below meth c 5 (QM G (pV post) args s below n0 s0) 32 [(0, .ref (G.1 + al0)), (1, .int xl1), (2, .int xl2), (3, .int xl3)] [] h) {h : AH} {al0 : Nat} {xl1 : Int32} {xl2 : Int32} {xl3 : Int32}  (hw : wb_X0_listOf_125 K32 h al0 xl1 xl2 xl3 post) : AW G p l e R s m args below meth c 5 (QM G (pV post) args s below n0 s0) 125 [(0, .ref (G.1 + al0)), (1, .int xl1), (2, .int xl2), (3, .int xl3)] [] h := by
  unfold wb_X0_listOf_125 at hw
  obtain ⟨iv1, eiv1⟩ : ∃ q : Int32, q = xl3 + 1 := ⟨_, rfl⟩
  replace hw := hw iv1 eiv1
  refine r_iinc C dX0_listOf_125 3 rfl (by rw [eiv1]; rfl) [(3, .int iv1), (0, .ref (G.1 + al0)), (1, .int xl1), (2, .int xl2)] (by decide) rfl ?_
  refine r_goto C dX0_listOf_128 32 (by decide) ?_
  refine r_sub [1, 2, 3, 0] rfl ?_
  exact hK32 _ _ _ _ _ hw
def wb_X0_listOf_32 (K32 : AH → Nat → Int32 → Int32 → Int32 → Prop) (h : AH) (al0 : Nat) (xl1 : Int32) (xl2 : Int32) (xl3 : Int32)  (post : AH → Prop) : Prop := (xl2 ≤ xl3 → (post h)) ∧ (¬ xl2 ≤ xl3 → ((ob h al0 0) ∧ (∃ rv1, aP h al0 0 = some rv1 ∧ ((ob h rv1 1) ∧ wp_X1_holds h rv1 xl1 xl3 (fun hv2 iv3 => (iv3 = 0 → (wb_X0_listOf_125 K32 hv2 al0 xl1 xl2 xl3 post)) ∧ (¬ iv3 = 0 → ((ob hv2 al0 0) ∧ (∃ rv4, aP hv2 al0 1 = some rv4 ∧ ((ob hv2 rv4 13) ∧ ((vp_in xl1 (aL hv2 rv4)) ∧ ((40 ≤ (aI hv2 rv4 xl1.toNatClampNeg) → (wb_X0_listOf_125 K32 hv2 al0 xl1 xl2 xl3 post)) ∧ (¬ 40 ≤ (aI hv2 rv4 xl1.toNatClampNeg) → ((ob hv2 al0 0) ∧ (∃ rv5, aP hv2 al0 1 = some rv5 ∧ ((ob hv2 rv5 13) ∧ ((vp_in xl1 (aL hv2 rv5)) ∧ (∀ iv6 : Int32, iv6 = (xl1 * (40 : Int32)) + (aI hv2 rv5 xl1.toNatClampNeg) → ((ob hv2 al0 0) ∧ (∃ rv7, aP hv2 al0 2 = some rv7 ∧ ((ob hv2 rv7 13) ∧ ((vp_in iv6 (aL hv2 rv7)) ∧ (∀ hv8 : AH, hv8 = hI hv2 rv7 iv6.toNatClampNeg xl3 → ((ob hv8 al0 0) ∧ (∃ rv9, aP hv8 al0 3 = some rv9 ∧ ((ob hv8 al0 0) ∧ (∃ rv10, aP hv8 al0 0 = some rv10 ∧ ((ob hv8 rv10 1) ∧ wp_X1_coverAt hv8 rv10 xl1 xl3 (fun hv11 jv12 => (ob hv11 rv9 14) ∧ ((vp_in iv6 (aL hv11 rv9)) ∧ (∀ hv13 : AH, hv13 = hJ hv11 rv9 iv6.toNatClampNeg jv12 → ((ob hv13 al0 0) ∧ (∃ rv14, aP hv13 al0 4 = some rv14 ∧ ((ob hv13 al0 0) ∧ (∃ rv15, aP hv13 al0 1 = some rv15 ∧ ((ob hv13 rv15 13) ∧ ((vp_in xl1 (aL hv13 rv15)) ∧ ((ob hv13 rv14 13) ∧ ((vp_in ((xl1 * (128 : Int32)) + xl3) (aL hv13 rv14)) ∧ (∀ hv16 : AH, hv16 = hI hv13 rv14 ((xl1 * (128 : Int32)) + xl3).toNatClampNeg (aI hv13 rv15 xl1.toNatClampNeg) → ((ob hv16 al0 0) ∧ (∃ rv17, aP hv16 al0 1 = some rv17 ∧ ((ob hv16 rv17 13) ∧ ((vp_in xl1 (aL hv16 rv17)) ∧ ((ob hv16 rv17 13) ∧ ((vp_in xl1 (aL hv16 rv17)) ∧ (∀ hv18 : AH, hv18 = hI hv16 rv17 xl1.toNatClampNeg ((aI hv16 rv17 xl1.toNatClampNeg) + (1 : Int32)) → (wb_X0_listOf_125 K32 hv18 al0 xl1 xl2 xl3 post)))))))))))))))))))))))))))))))))))))))))))))))
set_option maxRecDepth 100000 in
theorem tb_X0_listOf_32 {G : GG} {p : Program} {l : Launch} {e : Env} {R : Room} {s : State} {m : MethodId} {args : Array Value} {below : List Frame} {meth : Method} {c : Code} {n0 s0 : Nat} {post : AH → Prop} (C : Cx G p R s m args meth c 5 cX0_listOf RX0 n0 s0 2 48) (hr : meth.sig.returnType = none) {K32 : AH → Nat → Int32 → Int32 → Int32 → Prop} (hK32 : ∀ (h : AH) (al0 : Nat) (xl1 : Int32) (xl2 : Int32) (xl3 : Int32), K32 h al0 xl1 xl2 xl3 → AW G p l e R s m args below meth c 5 (QM G (pV post) args s below n0 s0) 32 [(0, .ref (G.1 + al0)), (1, .int xl1), (2, .int xl2), (3, .int xl3)] [] h) {h : AH} {al0 : Nat} {xl1 : Int32} {xl2 : Int32} {xl3 : Int32}  (hw : wb_X0_listOf_32 K32 h al0 xl1 xl2 xl3 post) : AW G p l e R s m args below meth c 5 (QM G (pV post) args s below n0 s0) 32 [(0, .ref (G.1 + al0)), (1, .int xl1), (2, .int xl2), (3, .int xl3)] [] h := by
  unfold wb_X0_listOf_32 at hw
  refine r_iload_n C dX0_listOf_32 3 rfl ?_
  refine r_iload_n C dX0_listOf_33 2 rfl ?_
  refine r_icmp_ge C dX0_listOf_34 131 (by decide) (fun hc => ?_) (fun hc => ?_)
  · replace hw := hw.1 hc
    exact r_vret C hr dX0_listOf_131 hw
  · replace hw := hw.2 hc
    refine r_aload_n C dX0_listOf_37 0 rfl ?_
    have hob := hw.1
    obtain ⟨rv1, hp, hw⟩ := hw.2
    refine r_getP C fl_RX0_37_0 hob hp (fun _ _ _ => rfl) dX0_listOf_38 ?_
    refine r_iload_n C dX0_listOf_41 1 rfl ?_
    refine r_iload_n C dX0_listOf_42 3 rfl ?_
    have hob := hw.1
    replace hw := hw.2
    refine r_callV C (As := [.int xl1, .int xl3]) (rest := []) (c_X1_holds G h rv1 xl1 xl3 _ hw) yl_X1_holds (gm5 (List.mem_of_getElem? (i := 96) rfl) rfl) (gm3 (List.mem_of_getElem? (i := 207) rfl) rfl) (ci := 1) rfl (by decide) (gm3 (List.mem_of_getElem? (i := 208) rfl) rfl) hob (by decide) rfl (Nat.le_of_ble_eq_true rfl) dX0_listOf_43 rfl (kI fun hv2 iv3 hw => ?_)
    refine r_if_eq C dX0_listOf_46 125 (by decide) (fun hc => ?_) (fun hc => ?_)
    · replace hw := hw.1 hc
      refine r_sub [0, 1, 2, 3] rfl ?_
      exact tb_X0_listOf_125 C hr hK32 hw
    · replace hw := hw.2 hc
      refine r_aload_n C dX0_listOf_49 0 rfl ?_
      have hob := hw.1
      obtain ⟨rv4, hp, hw⟩ := hw.2
      refine r_getP C fl_RX0_11_0 hob hp (fun _ _ _ => rfl) dX0_listOf_50 ?_
      refine r_iload_n C dX0_listOf_53 1 rfl ?_
      refine r_iaload C hw.1 hw.2.1 dX0_listOf_54 ?_
      replace hw := hw.2.2
      refine r_bipush (v := 40) C dX0_listOf_55 (by decide) ?_
      refine r_icmp_ge C dX0_listOf_57 125 (by decide) (fun hc => ?_) (fun hc => ?_)
      · replace hw := hw.1 hc
        refine r_sub [0, 1, 2, 3] rfl ?_
        exact tb_X0_listOf_125 C hr hK32 hw
      · replace hw := hw.2 hc
        refine r_iload_n C dX0_listOf_60 1 rfl ?_
        refine r_bipush (v := 40) C dX0_listOf_61 (by decide) ?_
        refine r_imul C dX0_listOf_63 ?_
        refine r_aload_n C dX0_listOf_64 0 rfl ?_
        have hob := hw.1
        obtain ⟨rv5, hp, hw⟩ := hw.2
        refine r_getP C fl_RX0_11_0 hob hp (fun _ _ _ => rfl) dX0_listOf_65 ?_
        refine r_iload_n C dX0_listOf_68 1 rfl ?_
        refine r_iaload C hw.1 hw.2.1 dX0_listOf_69 ?_
        replace hw := hw.2.2
        refine r_iadd C dX0_listOf_70 ?_
        refine r_topi fun iv6 eiv6 => ?_
        replace hw := hw iv6 eiv6
        refine r_istore C dX0_listOf_71 [(4, .int iv6), (0, .ref (G.1 + al0)), (1, .int xl1), (2, .int xl2), (3, .int xl3)] (by decide) rfl ?_
        refine r_aload_n C dX0_listOf_73 1 rfl ?_
        have hob := hw.1
        obtain ⟨rv7, hp, hw⟩ := hw.2
        refine r_getP C fl_RX0_15_0 hob hp (fun _ _ _ => rfl) dX0_listOf_74 ?_
        refine r_iload C dX0_listOf_77 0 rfl ?_
        refine r_iload_n C dX0_listOf_79 4 rfl ?_
        refine r_iastore C hw.1 hw.2.1 dX0_listOf_80 ?_
        replace hw := hw.2.2
        refine r_toph fun hv8 ehv8 => ?_
        replace hw := hw hv8 ehv8
        refine r_aload_n C dX0_listOf_81 1 rfl ?_
        have hob := hw.1
        obtain ⟨rv9, hp, hw⟩ := hw.2
        refine r_getP C fl_RX0_18_0 hob hp (fun _ _ _ => rfl) dX0_listOf_82 ?_
        refine r_iload C dX0_listOf_85 0 rfl ?_
        refine r_aload_n C dX0_listOf_87 1 rfl ?_
        have hob := hw.1
        obtain ⟨rv10, hp, hw⟩ := hw.2
        refine r_getP C fl_RX0_37_0 hob hp (fun _ _ _ => rfl) dX0_listOf_88 ?_
        refine r_iload_n C dX0_listOf_91 2 rfl ?_
        refine r_iload_n C dX0_listOf_92 4 rfl ?_
        have hob := hw.1
        replace hw := hw.2
        refine r_callV C (As := [.int xl1, .int xl3]) (rest := [.int iv6, .ref (G.1 + rv9)]) (c_X1_coverAt G hv8 rv10 xl1 xl3 _ hw) yl_X1_coverAt (gm5 (List.mem_of_getElem? (i := 97) rfl) rfl) (gm3 (List.mem_of_getElem? (i := 223) rfl) rfl) (ci := 1) rfl (by decide) (gm3 (List.mem_of_getElem? (i := 224) rfl) rfl) hob (by decide) rfl (Nat.le_of_ble_eq_true rfl) dX0_listOf_93 rfl (kJ fun hv11 jv12 hw => ?_)
        refine r_lastore C hw.1 hw.2.1 dX0_listOf_96 ?_
        replace hw := hw.2.2
        refine r_toph fun hv13 ehv13 => ?_
        replace hw := hw hv13 ehv13
        refine r_aload_n C dX0_listOf_97 1 rfl ?_
        have hob := hw.1
        obtain ⟨rv14, hp, hw⟩ := hw.2
        refine r_getP C fl_RX0_22_0 hob hp (fun _ _ _ => rfl) dX0_listOf_98 ?_
        refine r_iload_n C dX0_listOf_101 2 rfl ?_
        refine r_sipush (v := 128) C dX0_listOf_102 (by decide) ?_
        refine r_imul C dX0_listOf_105 ?_
        refine r_iload_n C dX0_listOf_106 4 rfl ?_
        refine r_iadd C dX0_listOf_107 ?_
        refine r_aload_n C dX0_listOf_108 1 rfl ?_
        have hob := hw.1
        obtain ⟨rv15, hp, hw⟩ := hw.2
        refine r_getP C fl_RX0_11_0 hob hp (fun _ _ _ => rfl) dX0_listOf_109 ?_
        refine r_iload_n C dX0_listOf_112 2 rfl ?_
        refine r_iaload C hw.1 hw.2.1 dX0_listOf_113 ?_
        replace hw := hw.2.2
        refine r_iastore C hw.1 hw.2.1 dX0_listOf_114 ?_
        replace hw := hw.2.2
        refine r_toph fun hv16 ehv16 => ?_
        replace hw := hw hv16 ehv16
        refine r_aload_n C dX0_listOf_115 1 rfl ?_
        have hob := hw.1
        obtain ⟨rv17, hp, hw⟩ := hw.2
        refine r_getP C fl_RX0_11_0 hob hp (fun _ _ _ => rfl) dX0_listOf_116 ?_
        refine r_iload_n C dX0_listOf_119 2 rfl ?_
        refine r_dup2 C dX0_listOf_120 rfl rfl ?_
        refine r_iaload C hw.1 hw.2.1 dX0_listOf_121 ?_
        replace hw := hw.2.2
        refine r_iconst (v := 1) C dX0_listOf_122 (by decide) ?_
        refine r_iadd C dX0_listOf_123 ?_
        refine r_iastore C hw.1 hw.2.1 dX0_listOf_124 ?_
        replace hw := hw.2.2
        refine r_toph fun hv18 ehv18 => ?_
        replace hw := hw hv18 ehv18
        refine r_sub [1, 2, 3, 4] rfl ?_
        exact tb_X0_listOf_125 C hr hK32 hw
def wl_X0_listOf_32  (post : AH → Prop) : Nat → AH → Nat → Int32 → Int32 → Int32 → Prop
  | 0 => fun _ _ _ _ _ => False
  | n + 1 => fun h al0 xl1 xl2 xl3 => wb_X0_listOf_32  (wl_X0_listOf_32  post n) h al0 xl1 xl2 xl3 post
theorem tl_X0_listOf_32 {G : GG} {p : Program} {l : Launch} {e : Env} {R : Room} {s : State} {m : MethodId} {args : Array Value} {below : List Frame} {meth : Method} {c : Code} {n0 s0 : Nat} {post : AH → Prop} (C : Cx G p R s m args meth c 5 cX0_listOf RX0 n0 s0 2 48) (hr : meth.sig.returnType = none)   : ∀ (n : Nat) (h : AH) (al0 : Nat) (xl1 : Int32) (xl2 : Int32) (xl3 : Int32), wl_X0_listOf_32  post n h al0 xl1 xl2 xl3 → AW G p l e R s m args below meth c 5 (QM G (pV post) args s below n0 s0) 32 [(0, .ref (G.1 + al0)), (1, .int xl1), (2, .int xl2), (3, .int xl3)] [] h := by
  intro n
  induction n with
  | zero => intro h al0 xl1 xl2 xl3 hw; exact hw.elim
  | succ n ih => intro h al0 xl1 xl2 xl3 hw; exact tb_X0_listOf_32 C hr  ih hw
def wb_X0_listOf_29  (h : AH) (al0 : Nat) (xl1 : Int32) (xs0 : Int32) (post : AH → Prop) : Prop := ∃ n, wl_X0_listOf_32  post n h al0 xl1 xs0 0
set_option maxRecDepth 100000 in
theorem tb_X0_listOf_29 {G : GG} {p : Program} {l : Launch} {e : Env} {R : Room} {s : State} {m : MethodId} {args : Array Value} {below : List Frame} {meth : Method} {c : Code} {n0 s0 : Nat} {post : AH → Prop} (C : Cx G p R s m args meth c 5 cX0_listOf RX0 n0 s0 2 48) (hr : meth.sig.returnType = none)   {h : AH} {al0 : Nat} {xl1 : Int32} {xs0 : Int32} (hw : wb_X0_listOf_29  h al0 xl1 xs0 post) : AW G p l e R s m args below meth c 5 (QM G (pV post) args s below n0 s0) 29 [(0, .ref (G.1 + al0)), (1, .int xl1)] [.int xs0] h := by
  unfold wb_X0_listOf_29 at hw
  refine r_istore_n C dX0_listOf_29 [(2, .int xs0), (0, .ref (G.1 + al0)), (1, .int xl1)] (by decide) rfl ?_
  refine r_iconst (v := 0) C dX0_listOf_30 (by decide) ?_
  refine r_istore_n C dX0_listOf_31 [(3, .int 0), (2, .int xs0), (0, .ref (G.1 + al0)), (1, .int xl1)] (by decide) rfl ?_
  refine r_sub [2, 3, 1, 0] rfl ?_
  obtain ⟨n, hw⟩ := hw
  exact tl_X0_listOf_32 C hr  n _ _ _ _ _ hw
def wp_X0_listOf (h : AH) (a0 : Nat) (x1 : Int32) (post : AH → Prop) : Prop := (ob h a0 0) ∧ (∃ rv1, aP h a0 0 = some rv1 ∧ ((ob h rv1 1) ∧ (∃ rv2, aP h rv1 7 = some rv2 ∧ ((ob h rv2 13) ∧ ((vp_in x1 (aL h rv2)) ∧ ((ob h a0 0) ∧ (∃ rv3, aP h a0 0 = some rv3 ∧ ((ob h rv3 1) ∧ (∃ rv4, aP h rv3 8 = some rv4 ∧ ((ob h rv4 13) ∧ ((vp_in x1 (aL h rv4)) ∧ ((¬ (aI h rv2 x1.toNatClampNeg) = (aI h rv4 x1.toNatClampNeg) → (wb_X0_listOf_29  h a0 x1 128 post)) ∧ ((aI h rv2 x1.toNatClampNeg) = (aI h rv4 x1.toNatClampNeg) → (wb_X0_listOf_29  h a0 x1 64 post))))))))))))))
set_option maxRecDepth 100000 in
theorem c_X0_listOf (G : GG) (h : AH) (a0 : Nat) (x1 : Int32) (post : AH → Prop) (hw : wp_X0_listOf h a0 x1 post) : MC G yX0_listOf cX0_listOf 5 none 2 48 h [.ref (G.1 + a0), .int x1] (pV post) := by
  refine MC.of (lv := [(0, .ref (G.1 + a0)), (1, .int x1)]) (by decide) (Nat.le_of_ble_eq_true rfl) rfl fun p l e R s m args below meth c C hr hnm => ?_
  unfold wp_X0_listOf at hw
  refine r_aload_n C dX0_listOf_0 0 rfl ?_
  have hob := hw.1
  obtain ⟨rv1, hp, hw⟩ := hw.2
  refine r_getP C fl_RX0_37_0 hob hp (fun _ _ _ => rfl) dX0_listOf_1 ?_
  have hob := hw.1
  obtain ⟨rv2, hp, hw⟩ := hw.2
  refine r_getP C fl_RX0_54_1 hob hp (fun _ _ _ => rfl) dX0_listOf_4 ?_
  refine r_iload_n C dX0_listOf_7 1 rfl ?_
  refine r_iaload C hw.1 hw.2.1 dX0_listOf_8 ?_
  replace hw := hw.2.2
  refine r_aload_n C dX0_listOf_9 0 rfl ?_
  have hob := hw.1
  obtain ⟨rv3, hp, hw⟩ := hw.2
  refine r_getP C fl_RX0_37_0 hob hp (fun _ _ _ => rfl) dX0_listOf_10 ?_
  have hob := hw.1
  obtain ⟨rv4, hp, hw⟩ := hw.2
  refine r_getP C fl_RX0_57_1 hob hp (fun _ _ _ => rfl) dX0_listOf_13 ?_
  refine r_iload_n C dX0_listOf_16 1 rfl ?_
  refine r_iaload C hw.1 hw.2.1 dX0_listOf_17 ?_
  replace hw := hw.2.2
  refine r_icmp_ne C dX0_listOf_18 26 (by decide) (fun hc => ?_) (fun hc => ?_)
  · replace hw := hw.1 hc
    refine r_sipush (v := 128) C dX0_listOf_26 (by decide) ?_
    refine r_sub [0, 1] rfl ?_
    exact tb_X0_listOf_29 C hr  hw
  · replace hw := hw.2 hc
    refine r_bipush (v := 64) C dX0_listOf_21 (by decide) ?_
    refine r_goto C dX0_listOf_23 29 (by decide) ?_
    refine r_sub [0, 1] rfl ?_
    exact tb_X0_listOf_29 C hr  hw
theorem dJ7_fill_d0a16_0 : decode cJ7_fill_d0a16 0 = .ok (.iconst 0, 1) := by decide +kernel
theorem dJ7_fill_d0a16_1 : decode cJ7_fill_d0a16 1 = .ok (.istore_n 3, 1) := by decide +kernel
theorem dJ7_fill_d0a16_2 : decode cJ7_fill_d0a16 2 = .ok (.aload_n 0, 1) := by decide +kernel
theorem dJ7_fill_d0a16_3 : decode cJ7_fill_d0a16 3 = .ok (.arraylength, 1) := by decide +kernel
theorem dJ7_fill_d0a16_4 : decode cJ7_fill_d0a16 4 = .ok (.istore 4, 2) := by decide +kernel
theorem dJ7_fill_d0a16_6 : decode cJ7_fill_d0a16 6 = .ok (.iload_n 3, 1) := by decide +kernel
theorem dJ7_fill_d0a16_7 : decode cJ7_fill_d0a16 7 = .ok (.iload 4, 2) := by decide +kernel
theorem dJ7_fill_d0a16_9 : decode cJ7_fill_d0a16 9 = .ok (.if_icmp .ge 13, 3) := by decide +kernel
theorem dJ7_fill_d0a16_12 : decode cJ7_fill_d0a16 12 = .ok (.aload_n 0, 1) := by decide +kernel
theorem dJ7_fill_d0a16_13 : decode cJ7_fill_d0a16 13 = .ok (.iload_n 3, 1) := by decide +kernel
theorem dJ7_fill_d0a16_14 : decode cJ7_fill_d0a16 14 = .ok (.lload_n 1, 1) := by decide +kernel
theorem dJ7_fill_d0a16_15 : decode cJ7_fill_d0a16 15 = .ok (.lastore, 1) := by decide +kernel
theorem dJ7_fill_d0a16_16 : decode cJ7_fill_d0a16 16 = .ok (.iinc 3 1, 3) := by decide +kernel
theorem dJ7_fill_d0a16_19 : decode cJ7_fill_d0a16 19 = .ok (.goto (-13), 3) := by decide +kernel
theorem dJ7_fill_d0a16_22 : decode cJ7_fill_d0a16 22 = .ok (.return_, 1) := by decide +kernel
def wb_J7_fill_d0a16_6 (K6 : AH → Nat → Int64 → Int32 → Int32 → Prop) (h : AH) (al0 : Nat) (zl1 : Int64) (xl3 : Int32) (xl4 : Int32)  (post : AH → Prop) : Prop := (xl4 ≤ xl3 → (post h)) ∧ (¬ xl4 ≤ xl3 → ((ob h al0 14) ∧ ((vp_in xl3 (aL h al0)) ∧ (∀ hv1 : AH, hv1 = hJ h al0 xl3.toNatClampNeg zl1 → (∀ iv2 : Int32, iv2 = xl3 + 1 → (K6 hv1 al0 zl1 iv2 xl4))))))
set_option maxRecDepth 100000 in
theorem tb_J7_fill_d0a16_6 {G : GG} {p : Program} {l : Launch} {e : Env} {R : Room} {s : State} {m : MethodId} {args : Array Value} {below : List Frame} {meth : Method} {c : Code} {n0 s0 : Nat} {post : AH → Prop} (C : Cx G p R s m args meth c 5 cJ7_fill_d0a16 RJ7 n0 s0 0 0) (hr : meth.sig.returnType = none) {K6 : AH → Nat → Int64 → Int32 → Int32 → Prop} (hK6 : ∀ (h : AH) (al0 : Nat) (zl1 : Int64) (xl3 : Int32) (xl4 : Int32), K6 h al0 zl1 xl3 xl4 → AW G p l e R s m args below meth c 5 (QM G (pV post) args s below n0 s0) 6 [(0, .ref (G.1 + al0)), (1, .long zl1), (3, .int xl3), (4, .int xl4)] [] h) {h : AH} {al0 : Nat} {zl1 : Int64} {xl3 : Int32} {xl4 : Int32}  (hw : wb_J7_fill_d0a16_6 K6 h al0 zl1 xl3 xl4 post) : AW G p l e R s m args below meth c 5 (QM G (pV post) args s below n0 s0) 6 [(0, .ref (G.1 + al0)), (1, .long zl1), (3, .int xl3), (4, .int xl4)] [] h := by
  unfold wb_J7_fill_d0a16_6 at hw
  refine r_iload_n C dJ7_fill_d0a16_6 2 rfl ?_
  refine r_iload C dJ7_fill_d0a16_7 3 rfl ?_
  refine r_icmp_ge C dJ7_fill_d0a16_9 22 (by decide) (fun hc => ?_) (fun hc => ?_)
  · replace hw := hw.1 hc
    exact r_vret C hr dJ7_fill_d0a16_22 hw
  · replace hw := hw.2 hc
    refine r_aload_n C dJ7_fill_d0a16_12 0 rfl ?_
    refine r_iload_n C dJ7_fill_d0a16_13 2 rfl ?_
    refine r_lload_n C dJ7_fill_d0a16_14 1 rfl ?_
    refine r_lastore C hw.1 hw.2.1 dJ7_fill_d0a16_15 ?_
    replace hw := hw.2.2
    refine r_toph fun hv1 ehv1 => ?_
    replace hw := hw hv1 ehv1
    obtain ⟨iv2, eiv2⟩ : ∃ q : Int32, q = xl3 + 1 := ⟨_, rfl⟩
    replace hw := hw iv2 eiv2
    refine r_iinc C dJ7_fill_d0a16_16 2 rfl (by rw [eiv2]; rfl) [(3, .int iv2), (0, .ref (G.1 + al0)), (1, .long zl1), (4, .int xl4)] (by decide) rfl ?_
    refine r_goto C dJ7_fill_d0a16_19 6 (by decide) ?_
    refine r_sub [1, 2, 0, 3] rfl ?_
    exact hK6 _ _ _ _ _ hw
def wl_J7_fill_d0a16_6  (post : AH → Prop) : Nat → AH → Nat → Int64 → Int32 → Int32 → Prop
  | 0 => fun _ _ _ _ _ => False
  | n + 1 => fun h al0 zl1 xl3 xl4 => wb_J7_fill_d0a16_6  (wl_J7_fill_d0a16_6  post n) h al0 zl1 xl3 xl4 post
theorem tl_J7_fill_d0a16_6 {G : GG} {p : Program} {l : Launch} {e : Env} {R : Room} {s : State} {m : MethodId} {args : Array Value} {below : List Frame} {meth : Method} {c : Code} {n0 s0 : Nat} {post : AH → Prop} (C : Cx G p R s m args meth c 5 cJ7_fill_d0a16 RJ7 n0 s0 0 0) (hr : meth.sig.returnType = none)   : ∀ (n : Nat) (h : AH) (al0 : Nat) (zl1 : Int64) (xl3 : Int32) (xl4 : Int32), wl_J7_fill_d0a16_6  post n h al0 zl1 xl3 xl4 → AW G p l e R s m args below meth c 5 (QM G (pV post) args s below n0 s0) 6 [(0, .ref (G.1 + al0)), (1, .long zl1), (3, .int xl3), (4, .int xl4)] [] h := by
  intro n
  induction n with
  | zero => intro h al0 zl1 xl3 xl4 hw; exact hw.elim
  | succ n ih => intro h al0 zl1 xl3 xl4 hw; exact tb_J7_fill_d0a16_6 C hr  ih hw
def wp_J7_fill_d0a16 (h : AH) (a0 : Nat) (z1 : Int64) (post : AH → Prop) : Prop := ((aK h a0 = 12 ∨ aK h a0 = 13 ∨ aK h a0 = 14) ∧ a0 < aN h) ∧ (∀ iv1 : Int32, iv1 = nI (aL h a0) → (∃ n, wl_J7_fill_d0a16_6  post n h a0 z1 0 iv1))
set_option maxRecDepth 100000 in
theorem c_J7_fill_d0a16 (G : GG) (h : AH) (a0 : Nat) (z1 : Int64) (post : AH → Prop) (hw : wp_J7_fill_d0a16 h a0 z1 post) : MC G yJ7_fill_d0a16 cJ7_fill_d0a16 5 none 0 0 h [.ref (G.1 + a0), .long z1] (pV post) := by
  refine MC.of (lv := [(0, .ref (G.1 + a0)), (1, .long z1)]) (by decide) (Nat.le_of_ble_eq_true rfl) rfl fun p l e R s m args below meth c C hr hnm => ?_
  unfold wp_J7_fill_d0a16 at hw
  refine r_iconst (v := 0) C dJ7_fill_d0a16_0 (by decide) ?_
  refine r_istore_n C dJ7_fill_d0a16_1 [(3, .int 0), (0, .ref (G.1 + a0)), (1, .long z1)] (by decide) rfl ?_
  refine r_aload_n C dJ7_fill_d0a16_2 1 rfl ?_
  refine r_alen C hw.1 dJ7_fill_d0a16_3 ?_
  replace hw := hw.2
  refine r_topi fun iv1 eiv1 => ?_
  replace hw := hw iv1 eiv1
  refine r_istore C dJ7_fill_d0a16_4 [(4, .int iv1), (3, .int 0), (0, .ref (G.1 + a0)), (1, .long z1)] (by decide) rfl ?_
  refine r_sub [2, 3, 1, 0] rfl ?_
  obtain ⟨n, hw⟩ := hw
  exact tl_J7_fill_d0a16_6 C hr  n _ _ _ _ _ hw
theorem dX4_reachOf_0 : decode cX4_reachOf 0 = .ok (.iconst 0, 1) := by decide +kernel
theorem dX4_reachOf_1 : decode cX4_reachOf 1 = .ok (.istore_n 3, 1) := by decide +kernel
theorem dX4_reachOf_2 : decode cX4_reachOf 2 = .ok (.iload_n 3, 1) := by decide +kernel
theorem dX4_reachOf_3 : decode cX4_reachOf 3 = .ok (.aload_n 0, 1) := by decide +kernel
theorem dX4_reachOf_4 : decode cX4_reachOf 4 = .ok (.getfield 27, 3) := by decide +kernel
theorem dX4_reachOf_7 : decode cX4_reachOf 7 = .ok (.if_icmp .ge 56, 3) := by decide +kernel
theorem dX4_reachOf_10 : decode cX4_reachOf 10 = .ok (.aload_n 0, 1) := by decide +kernel
theorem dX4_reachOf_11 : decode cX4_reachOf 11 = .ok (.getfield 9, 3) := by decide +kernel
theorem dX4_reachOf_14 : decode cX4_reachOf 14 = .ok (.iload_n 3, 1) := by decide +kernel
theorem dX4_reachOf_15 : decode cX4_reachOf 15 = .ok (.iaload, 1) := by decide +kernel
theorem dX4_reachOf_16 : decode cX4_reachOf 16 = .ok (.iload_n 1, 1) := by decide +kernel
theorem dX4_reachOf_17 : decode cX4_reachOf 17 = .ok (.if_icmp .ne 13, 3) := by decide +kernel
theorem dX4_reachOf_20 : decode cX4_reachOf 20 = .ok (.aload_n 0, 1) := by decide +kernel
theorem dX4_reachOf_21 : decode cX4_reachOf 21 = .ok (.getfield 15, 3) := by decide +kernel
theorem dX4_reachOf_24 : decode cX4_reachOf 24 = .ok (.iload_n 3, 1) := by decide +kernel
theorem dX4_reachOf_25 : decode cX4_reachOf 25 = .ok (.iaload, 1) := by decide +kernel
theorem dX4_reachOf_26 : decode cX4_reachOf 26 = .ok (.iload_n 2, 1) := by decide +kernel
theorem dX4_reachOf_27 : decode cX4_reachOf 27 = .ok (.if_icmp .eq 23, 3) := by decide +kernel
theorem dX4_reachOf_30 : decode cX4_reachOf 30 = .ok (.aload_n 0, 1) := by decide +kernel
theorem dX4_reachOf_31 : decode cX4_reachOf 31 = .ok (.getfield 9, 3) := by decide +kernel
theorem dX4_reachOf_34 : decode cX4_reachOf 34 = .ok (.iload_n 3, 1) := by decide +kernel
theorem dX4_reachOf_35 : decode cX4_reachOf 35 = .ok (.iaload, 1) := by decide +kernel
theorem dX4_reachOf_36 : decode cX4_reachOf 36 = .ok (.iload_n 2, 1) := by decide +kernel
theorem dX4_reachOf_37 : decode cX4_reachOf 37 = .ok (.if_icmp .ne 20, 3) := by decide +kernel
theorem dX4_reachOf_40 : decode cX4_reachOf 40 = .ok (.aload_n 0, 1) := by decide +kernel
theorem dX4_reachOf_41 : decode cX4_reachOf 41 = .ok (.getfield 15, 3) := by decide +kernel
theorem dX4_reachOf_44 : decode cX4_reachOf 44 = .ok (.iload_n 3, 1) := by decide +kernel
theorem dX4_reachOf_45 : decode cX4_reachOf 45 = .ok (.iaload, 1) := by decide +kernel
theorem dX4_reachOf_46 : decode cX4_reachOf 46 = .ok (.iload_n 1, 1) := by decide +kernel
theorem dX4_reachOf_47 : decode cX4_reachOf 47 = .ok (.if_icmp .ne 10, 3) := by decide +kernel
theorem dX4_reachOf_50 : decode cX4_reachOf 50 = .ok (.aload_n 0, 1) := by decide +kernel
theorem dX4_reachOf_51 : decode cX4_reachOf 51 = .ok (.getfield 18, 3) := by decide +kernel
theorem dX4_reachOf_54 : decode cX4_reachOf 54 = .ok (.iload_n 3, 1) := by decide +kernel
theorem dX4_reachOf_55 : decode cX4_reachOf 55 = .ok (.iaload, 1) := by decide +kernel
theorem dX4_reachOf_56 : decode cX4_reachOf 56 = .ok (.ireturn, 1) := by decide +kernel
theorem dX4_reachOf_57 : decode cX4_reachOf 57 = .ok (.iinc 3 1, 3) := by decide +kernel
theorem dX4_reachOf_60 : decode cX4_reachOf 60 = .ok (.goto (-58), 3) := by decide +kernel
theorem dX4_reachOf_63 : decode cX4_reachOf 63 = .ok (.bipush 99, 2) := by decide +kernel
theorem dX4_reachOf_65 : decode cX4_reachOf 65 = .ok (.ireturn, 1) := by decide +kernel
def wb_X4_reachOf_57 (K2 : AH → Nat → Int32 → Int32 → Int32 → Prop) (h : AH) (al0 : Nat) (xl1 : Int32) (xl2 : Int32) (xl3 : Int32)  (post : AH → Int32 → Prop) : Prop := ∀ iv1 : Int32, iv1 = xl3 + 1 → (K2 h al0 xl1 xl2 iv1)
set_option maxRecDepth 100000 in
theorem tb_X4_reachOf_57 {G : GG} {p : Program} {l : Launch} {e : Env} {R : Room} {s : State} {m : MethodId} {args : Array Value} {below : List Frame} {meth : Method} {c : Code} {n0 s0 : Nat} {post : AH → Int32 → Prop} (C : Cx G p R s m args meth c 4 cX4_reachOf RX4 n0 s0 0 0) (hr : meth.sig.returnType = (some .int)) {K2 : AH → Nat → Int32 → Int32 → Int32 → Prop} (hK2 : ∀ (h : AH) (al0 : Nat) (xl1 : Int32) (xl2 : Int32) (xl3 : Int32), K2 h al0 xl1 xl2 xl3 → AW G p l e R s m args below meth c 4 (QM G (pI post) args s below n0 s0) 2 [(0, .ref (G.1 + al0)), (1, .int xl1), (2, .int xl2), (3, .int xl3)] [] h) {h : AH} {al0 : Nat} {xl1 : Int32} {xl2 : Int32} {xl3 : Int32}  (hw : wb_X4_reachOf_57 K2 h al0 xl1 xl2 xl3 post) : AW G p l e R s m args below meth c 4 (QM G (pI post) args s below n0 s0) 57 [(0, .ref (G.1 + al0)), (1, .int xl1), (2, .int xl2), (3, .int xl3)] [] h := by
  unfold wb_X4_reachOf_57 at hw
  obtain ⟨iv1, eiv1⟩ : ∃ q : Int32, q = xl3 + 1 := ⟨_, rfl⟩
  replace hw := hw iv1 eiv1
  refine r_iinc C dX4_reachOf_57 3 rfl (by rw [eiv1]; rfl) [(3, .int iv1), (0, .ref (G.1 + al0)), (1, .int xl1), (2, .int xl2)] (by decide) rfl ?_
  refine r_goto C dX4_reachOf_60 2 (by decide) ?_
  refine r_sub [1, 2, 3, 0] rfl ?_
  exact hK2 _ _ _ _ _ hw
def wb_X4_reachOf_50  (h : AH) (al0 : Nat) (xl3 : Int32)  (post : AH → Int32 → Prop) : Prop := (ob h al0 4) ∧ (∃ rv1, aP h al0 3 = some rv1 ∧ ((ob h rv1 13) ∧ ((vp_in xl3 (aL h rv1)) ∧ (post h (aI h rv1 xl3.toNatClampNeg)))))
set_option maxRecDepth 100000 in
theorem tb_X4_reachOf_50 {G : GG} {p : Program} {l : Launch} {e : Env} {R : Room} {s : State} {m : MethodId} {args : Array Value} {below : List Frame} {meth : Method} {c : Code} {n0 s0 : Nat} {post : AH → Int32 → Prop} (C : Cx G p R s m args meth c 4 cX4_reachOf RX4 n0 s0 0 0) (hr : meth.sig.returnType = (some .int))   {h : AH} {al0 : Nat} {xl3 : Int32}  (hw : wb_X4_reachOf_50  h al0 xl3 post) : AW G p l e R s m args below meth c 4 (QM G (pI post) args s below n0 s0) 50 [(0, .ref (G.1 + al0)), (3, .int xl3)] [] h := by
  unfold wb_X4_reachOf_50 at hw
  refine r_aload_n C dX4_reachOf_50 0 rfl ?_
  have hob := hw.1
  obtain ⟨rv1, hp, hw⟩ := hw.2
  refine r_getP C fl_RX4_18_4 hob hp (fun _ _ _ => rfl) dX4_reachOf_51 ?_
  refine r_iload_n C dX4_reachOf_54 1 rfl ?_
  refine r_iaload C hw.1 hw.2.1 dX4_reachOf_55 ?_
  replace hw := hw.2.2
  exact r_iret C hr dX4_reachOf_56 hw
def wb_X4_reachOf_30 (K2 : AH → Nat → Int32 → Int32 → Int32 → Prop) (h : AH) (al0 : Nat) (xl1 : Int32) (xl2 : Int32) (xl3 : Int32)  (post : AH → Int32 → Prop) : Prop := (ob h al0 4) ∧ (∃ rv1, aP h al0 1 = some rv1 ∧ ((ob h rv1 13) ∧ ((vp_in xl3 (aL h rv1)) ∧ ((¬ (aI h rv1 xl3.toNatClampNeg) = xl2 → (wb_X4_reachOf_57 K2 h al0 xl1 xl2 xl3 post)) ∧ ((aI h rv1 xl3.toNatClampNeg) = xl2 → ((ob h al0 4) ∧ (∃ rv2, aP h al0 2 = some rv2 ∧ ((ob h rv2 13) ∧ ((vp_in xl3 (aL h rv2)) ∧ ((¬ (aI h rv2 xl3.toNatClampNeg) = xl1 → (wb_X4_reachOf_57 K2 h al0 xl1 xl2 xl3 post)) ∧ ((aI h rv2 xl3.toNatClampNeg) = xl1 → (wb_X4_reachOf_50  h al0 xl3 post))))))))))))
set_option maxRecDepth 100000 in
theorem tb_X4_reachOf_30 {G : GG} {p : Program} {l : Launch} {e : Env} {R : Room} {s : State} {m : MethodId} {args : Array Value} {below : List Frame} {meth : Method} {c : Code} {n0 s0 : Nat} {post : AH → Int32 → Prop} (C : Cx G p R s m args meth c 4 cX4_reachOf RX4 n0 s0 0 0) (hr : meth.sig.returnType = (some .int)) {K2 : AH → Nat → Int32 → Int32 → Int32 → Prop} (hK2 : ∀ (h : AH) (al0 : Nat) (xl1 : Int32) (xl2 : Int32) (xl3 : Int32), K2 h al0 xl1 xl2 xl3 → AW G p l e R s m args below meth c 4 (QM G (pI post) args s below n0 s0) 2 [(0, .ref (G.1 + al0)), (1, .int xl1), (2, .int xl2), (3, .int xl3)] [] h) {h : AH} {al0 : Nat} {xl1 : Int32} {xl2 : Int32} {xl3 : Int32}  (hw : wb_X4_reachOf_30 K2 h al0 xl1 xl2 xl3 post) : AW G p l e R s m args below meth c 4 (QM G (pI post) args s below n0 s0) 30 [(0, .ref (G.1 + al0)), (1, .int xl1), (2, .int xl2), (3, .int xl3)] [] h := by
  unfold wb_X4_reachOf_30 at hw
  refine r_aload_n C dX4_reachOf_30 0 rfl ?_
  have hob := hw.1
  obtain ⟨rv1, hp, hw⟩ := hw.2
  refine r_getP C fl_RX4_9_4 hob hp (fun _ _ _ => rfl) dX4_reachOf_31 ?_
  refine r_iload_n C dX4_reachOf_34 3 rfl ?_
  refine r_iaload C hw.1 hw.2.1 dX4_reachOf_35 ?_
  replace hw := hw.2.2
  refine r_iload_n C dX4_reachOf_36 2 rfl ?_
  refine r_icmp_ne C dX4_reachOf_37 57 (by decide) (fun hc => ?_) (fun hc => ?_)
  · replace hw := hw.1 hc
    refine r_sub [0, 1, 2, 3] rfl ?_
    exact tb_X4_reachOf_57 C hr hK2 hw
  · replace hw := hw.2 hc
    refine r_aload_n C dX4_reachOf_40 0 rfl ?_
    have hob := hw.1
    obtain ⟨rv2, hp, hw⟩ := hw.2
    refine r_getP C fl_RX4_15_4 hob hp (fun _ _ _ => rfl) dX4_reachOf_41 ?_
    refine r_iload_n C dX4_reachOf_44 3 rfl ?_
    refine r_iaload C hw.1 hw.2.1 dX4_reachOf_45 ?_
    replace hw := hw.2.2
    refine r_iload_n C dX4_reachOf_46 1 rfl ?_
    refine r_icmp_ne C dX4_reachOf_47 57 (by decide) (fun hc => ?_) (fun hc => ?_)
    · replace hw := hw.1 hc
      refine r_sub [0, 1, 2, 3] rfl ?_
      exact tb_X4_reachOf_57 C hr hK2 hw
    · replace hw := hw.2 hc
      refine r_sub [0, 3] rfl ?_
      exact tb_X4_reachOf_50 C hr  hw
def wb_X4_reachOf_2 (K2 : AH → Nat → Int32 → Int32 → Int32 → Prop) (h : AH) (al0 : Nat) (xl1 : Int32) (xl2 : Int32) (xl3 : Int32)  (post : AH → Int32 → Prop) : Prop := (ob h al0 4) ∧ (((aI h al0 0) ≤ xl3 → (post h 99)) ∧ (¬ (aI h al0 0) ≤ xl3 → ((ob h al0 4) ∧ (∃ rv1, aP h al0 1 = some rv1 ∧ ((ob h rv1 13) ∧ ((vp_in xl3 (aL h rv1)) ∧ ((¬ (aI h rv1 xl3.toNatClampNeg) = xl1 → (wb_X4_reachOf_30 K2 h al0 xl1 xl2 xl3 post)) ∧ ((aI h rv1 xl3.toNatClampNeg) = xl1 → ((ob h al0 4) ∧ (∃ rv2, aP h al0 2 = some rv2 ∧ ((ob h rv2 13) ∧ ((vp_in xl3 (aL h rv2)) ∧ (((aI h rv2 xl3.toNatClampNeg) = xl2 → (wb_X4_reachOf_50  h al0 xl3 post)) ∧ (¬ (aI h rv2 xl3.toNatClampNeg) = xl2 → (wb_X4_reachOf_30 K2 h al0 xl1 xl2 xl3 post)))))))))))))))
set_option maxRecDepth 100000 in
theorem tb_X4_reachOf_2 {G : GG} {p : Program} {l : Launch} {e : Env} {R : Room} {s : State} {m : MethodId} {args : Array Value} {below : List Frame} {meth : Method} {c : Code} {n0 s0 : Nat} {post : AH → Int32 → Prop} (C : Cx G p R s m args meth c 4 cX4_reachOf RX4 n0 s0 0 0) (hr : meth.sig.returnType = (some .int)) {K2 : AH → Nat → Int32 → Int32 → Int32 → Prop} (hK2 : ∀ (h : AH) (al0 : Nat) (xl1 : Int32) (xl2 : Int32) (xl3 : Int32), K2 h al0 xl1 xl2 xl3 → AW G p l e R s m args below meth c 4 (QM G (pI post) args s below n0 s0) 2 [(0, .ref (G.1 + al0)), (1, .int xl1), (2, .int xl2), (3, .int xl3)] [] h) {h : AH} {al0 : Nat} {xl1 : Int32} {xl2 : Int32} {xl3 : Int32}  (hw : wb_X4_reachOf_2 K2 h al0 xl1 xl2 xl3 post) : AW G p l e R s m args below meth c 4 (QM G (pI post) args s below n0 s0) 2 [(0, .ref (G.1 + al0)), (1, .int xl1), (2, .int xl2), (3, .int xl3)] [] h := by
  unfold wb_X4_reachOf_2 at hw
  refine r_iload_n C dX4_reachOf_2 3 rfl ?_
  refine r_aload_n C dX4_reachOf_3 0 rfl ?_
  refine r_getI C fl_RX4_27_4 hw.1 (fun _ _ _ => rfl) dX4_reachOf_4 ?_
  replace hw := hw.2
  refine r_icmp_ge C dX4_reachOf_7 63 (by decide) (fun hc => ?_) (fun hc => ?_)
  · replace hw := hw.1 hc
    refine r_bipush (v := 99) C dX4_reachOf_63 (by decide) ?_
    exact r_iret C hr dX4_reachOf_65 hw
  · replace hw := hw.2 hc
    refine r_aload_n C dX4_reachOf_10 0 rfl ?_
    have hob := hw.1
    obtain ⟨rv1, hp, hw⟩ := hw.2
    refine r_getP C fl_RX4_9_4 hob hp (fun _ _ _ => rfl) dX4_reachOf_11 ?_
    refine r_iload_n C dX4_reachOf_14 3 rfl ?_
    refine r_iaload C hw.1 hw.2.1 dX4_reachOf_15 ?_
    replace hw := hw.2.2
    refine r_iload_n C dX4_reachOf_16 1 rfl ?_
    refine r_icmp_ne C dX4_reachOf_17 30 (by decide) (fun hc => ?_) (fun hc => ?_)
    · replace hw := hw.1 hc
      refine r_sub [0, 1, 2, 3] rfl ?_
      exact tb_X4_reachOf_30 C hr hK2 hw
    · replace hw := hw.2 hc
      refine r_aload_n C dX4_reachOf_20 0 rfl ?_
      have hob := hw.1
      obtain ⟨rv2, hp, hw⟩ := hw.2
      refine r_getP C fl_RX4_15_4 hob hp (fun _ _ _ => rfl) dX4_reachOf_21 ?_
      refine r_iload_n C dX4_reachOf_24 3 rfl ?_
      refine r_iaload C hw.1 hw.2.1 dX4_reachOf_25 ?_
      replace hw := hw.2.2
      refine r_iload_n C dX4_reachOf_26 2 rfl ?_
      refine r_icmp_eq C dX4_reachOf_27 50 (by decide) (fun hc => ?_) (fun hc => ?_)
      · replace hw := hw.1 hc
        refine r_sub [0, 3] rfl ?_
        exact tb_X4_reachOf_50 C hr  hw
      · replace hw := hw.2 hc
        refine r_sub [0, 1, 2, 3] rfl ?_
        exact tb_X4_reachOf_30 C hr hK2 hw
def wl_X4_reachOf_2  (post : AH → Int32 → Prop) : Nat → AH → Nat → Int32 → Int32 → Int32 → Prop
  | 0 => fun _ _ _ _ _ => False
  | n + 1 => fun h al0 xl1 xl2 xl3 => wb_X4_reachOf_2  (wl_X4_reachOf_2  post n) h al0 xl1 xl2 xl3 post
theorem tl_X4_reachOf_2 {G : GG} {p : Program} {l : Launch} {e : Env} {R : Room} {s : State} {m : MethodId} {args : Array Value} {below : List Frame} {meth : Method} {c : Code} {n0 s0 : Nat} {post : AH → Int32 → Prop} (C : Cx G p R s m args meth c 4 cX4_reachOf RX4 n0 s0 0 0) (hr : meth.sig.returnType = (some .int))   : ∀ (n : Nat) (h : AH) (al0 : Nat) (xl1 : Int32) (xl2 : Int32) (xl3 : Int32), wl_X4_reachOf_2  post n h al0 xl1 xl2 xl3 → AW G p l e R s m args below meth c 4 (QM G (pI post) args s below n0 s0) 2 [(0, .ref (G.1 + al0)), (1, .int xl1), (2, .int xl2), (3, .int xl3)] [] h := by
  intro n
  induction n with
  | zero => intro h al0 xl1 xl2 xl3 hw; exact hw.elim
  | succ n ih => intro h al0 xl1 xl2 xl3 hw; exact tb_X4_reachOf_2 C hr  ih hw
def wp_X4_reachOf (h : AH) (a0 : Nat) (x1 : Int32) (x2 : Int32) (post : AH → Int32 → Prop) : Prop := ∃ n, wl_X4_reachOf_2  post n h a0 x1 x2 0
set_option maxRecDepth 100000 in
theorem c_X4_reachOf (G : GG) (h : AH) (a0 : Nat) (x1 : Int32) (x2 : Int32) (post : AH → Int32 → Prop) (hw : wp_X4_reachOf h a0 x1 x2 post) : MC G yX4_reachOf cX4_reachOf 4 (some .int) 0 0 h [.ref (G.1 + a0), .int x1, .int x2] (pI post) := by
  refine MC.of (lv := [(0, .ref (G.1 + a0)), (1, .int x1), (2, .int x2)]) (by decide) (Nat.le_of_ble_eq_true rfl) rfl fun p l e R s m args below meth c C hr hnm => ?_
  unfold wp_X4_reachOf at hw
  refine r_iconst (v := 0) C dX4_reachOf_0 (by decide) ?_
  refine r_istore_n C dX4_reachOf_1 [(3, .int 0), (0, .ref (G.1 + a0)), (1, .int x1), (2, .int x2)] (by decide) rfl ?_
  refine r_sub [1, 2, 3, 0] rfl ?_
  obtain ⟨n, hw⟩ := hw
  exact tl_X4_reachOf_2 C hr  n _ _ _ _ _ hw
theorem dX1_between_0 : decode cX1_between 0 = .ok (.iload_n 2, 1) := by decide +kernel
theorem dX1_between_1 : decode cX1_between 1 = .ok (.bipush 7, 2) := by decide +kernel
theorem dX1_between_3 : decode cX1_between 3 = .ok (.iand, 1) := by decide +kernel
theorem dX1_between_4 : decode cX1_between 4 = .ok (.istore 5, 2) := by decide +kernel
theorem dX1_between_6 : decode cX1_between 6 = .ok (.iload 4, 2) := by decide +kernel
theorem dX1_between_8 : decode cX1_between 8 = .ok (.bipush 7, 2) := by decide +kernel
theorem dX1_between_10 : decode cX1_between 10 = .ok (.iand, 1) := by decide +kernel
theorem dX1_between_11 : decode cX1_between 11 = .ok (.istore 6, 2) := by decide +kernel
theorem dX1_between_13 : decode cX1_between 13 = .ok (.iload_n 2, 1) := by decide +kernel
theorem dX1_between_14 : decode cX1_between 14 = .ok (.iconst 3, 1) := by decide +kernel
theorem dX1_between_15 : decode cX1_between 15 = .ok (.ishr, 1) := by decide +kernel
theorem dX1_between_16 : decode cX1_between 16 = .ok (.bipush 7, 2) := by decide +kernel
theorem dX1_between_18 : decode cX1_between 18 = .ok (.iand, 1) := by decide +kernel
theorem dX1_between_19 : decode cX1_between 19 = .ok (.istore 7, 2) := by decide +kernel
theorem dX1_between_21 : decode cX1_between 21 = .ok (.iload 4, 2) := by decide +kernel
theorem dX1_between_23 : decode cX1_between 23 = .ok (.iconst 3, 1) := by decide +kernel
theorem dX1_between_24 : decode cX1_between 24 = .ok (.ishr, 1) := by decide +kernel
theorem dX1_between_25 : decode cX1_between 25 = .ok (.bipush 7, 2) := by decide +kernel
theorem dX1_between_27 : decode cX1_between 27 = .ok (.iand, 1) := by decide +kernel
theorem dX1_between_28 : decode cX1_between 28 = .ok (.istore 8, 2) := by decide +kernel
theorem dX1_between_30 : decode cX1_between 30 = .ok (.iload 6, 2) := by decide +kernel
theorem dX1_between_32 : decode cX1_between 32 = .ok (.iload 5, 2) := by decide +kernel
theorem dX1_between_34 : decode cX1_between 34 = .ok (.isub, 1) := by decide +kernel
theorem dX1_between_35 : decode cX1_between 35 = .ok (.aload_n 0, 1) := by decide +kernel
theorem dX1_between_36 : decode cX1_between 36 = .ok (.iload_n 1, 1) := by decide +kernel
theorem dX1_between_37 : decode cX1_between 37 = .ok (.iload_n 2, 1) := by decide +kernel
theorem dX1_between_38 : decode cX1_between 38 = .ok (.invokevirtual 101, 3) := by decide +kernel
theorem dX1_between_41 : decode cX1_between 41 = .ok (.isub, 1) := by decide +kernel
theorem dX1_between_42 : decode cX1_between 42 = .ok (.iload 5, 2) := by decide +kernel
theorem dX1_between_44 : decode cX1_between 44 = .ok (.iload 6, 2) := by decide +kernel
theorem dX1_between_46 : decode cX1_between 46 = .ok (.isub, 1) := by decide +kernel
theorem dX1_between_47 : decode cX1_between 47 = .ok (.aload_n 0, 1) := by decide +kernel
theorem dX1_between_48 : decode cX1_between 48 = .ok (.iload_n 3, 1) := by decide +kernel
theorem dX1_between_49 : decode cX1_between 49 = .ok (.iload 4, 2) := by decide +kernel
theorem dX1_between_51 : decode cX1_between 51 = .ok (.invokevirtual 101, 3) := by decide +kernel
theorem dX1_between_54 : decode cX1_between 54 = .ok (.isub, 1) := by decide +kernel
theorem dX1_between_55 : decode cX1_between 55 = .ok (.invokestatic 118, 3) := by decide +kernel
theorem dX1_between_58 : decode cX1_between 58 = .ok (.istore 9, 2) := by decide +kernel
theorem dX1_between_60 : decode cX1_between 60 = .ok (.iload 8, 2) := by decide +kernel
theorem dX1_between_62 : decode cX1_between 62 = .ok (.iload 7, 2) := by decide +kernel
theorem dX1_between_64 : decode cX1_between 64 = .ok (.isub, 1) := by decide +kernel
theorem dX1_between_65 : decode cX1_between 65 = .ok (.aload_n 0, 1) := by decide +kernel
theorem dX1_between_66 : decode cX1_between 66 = .ok (.iload_n 1, 1) := by decide +kernel
theorem dX1_between_67 : decode cX1_between 67 = .ok (.iload_n 2, 1) := by decide +kernel
theorem dX1_between_68 : decode cX1_between 68 = .ok (.invokevirtual 105, 3) := by decide +kernel
theorem dX1_between_71 : decode cX1_between 71 = .ok (.isub, 1) := by decide +kernel
theorem dX1_between_72 : decode cX1_between 72 = .ok (.iload 7, 2) := by decide +kernel
theorem dX1_between_74 : decode cX1_between 74 = .ok (.iload 8, 2) := by decide +kernel
theorem dX1_between_76 : decode cX1_between 76 = .ok (.isub, 1) := by decide +kernel
theorem dX1_between_77 : decode cX1_between 77 = .ok (.aload_n 0, 1) := by decide +kernel
theorem dX1_between_78 : decode cX1_between 78 = .ok (.iload_n 3, 1) := by decide +kernel
theorem dX1_between_79 : decode cX1_between 79 = .ok (.iload 4, 2) := by decide +kernel
theorem dX1_between_81 : decode cX1_between 81 = .ok (.invokevirtual 105, 3) := by decide +kernel
theorem dX1_between_84 : decode cX1_between 84 = .ok (.isub, 1) := by decide +kernel
theorem dX1_between_85 : decode cX1_between 85 = .ok (.invokestatic 118, 3) := by decide +kernel
theorem dX1_between_88 : decode cX1_between 88 = .ok (.istore 10, 2) := by decide +kernel
theorem dX1_between_90 : decode cX1_between 90 = .ok (.iconst 0, 1) := by decide +kernel
theorem dX1_between_91 : decode cX1_between 91 = .ok (.iload 9, 2) := by decide +kernel
theorem dX1_between_93 : decode cX1_between 93 = .ok (.iload 10, 2) := by decide +kernel
theorem dX1_between_95 : decode cX1_between 95 = .ok (.invokestatic 118, 3) := by decide +kernel
theorem dX1_between_98 : decode cX1_between 98 = .ok (.invokestatic 118, 3) := by decide +kernel
theorem dX1_between_101 : decode cX1_between 101 = .ok (.ireturn, 1) := by decide +kernel
def wp_X1_between (h : AH) (a0 : Nat) (x1 : Int32) (x2 : Int32) (x3 : Int32) (x4 : Int32) (post : AH → Int32 → Prop) : Prop := ∀ iv1 : Int32, iv1 = x2 &&& (7 : Int32) → (∀ iv2 : Int32, iv2 = x4 &&& (7 : Int32) → (∀ iv3 : Int32, iv3 = (x2 >>> ((3 : Int32) &&& 31)) &&& (7 : Int32) → (∀ iv4 : Int32, iv4 = (x4 >>> ((3 : Int32) &&& 31)) &&& (7 : Int32) → ((ob h a0 1) ∧ wp_X1_wideAt h a0 x1 x2 (fun hv5 iv6 => (ob hv5 a0 1) ∧ wp_X1_wideAt hv5 a0 x3 x4 (fun hv7 iv8 => ∀ iv9 : Int32, iv9 = mx ((iv2 - iv1) - iv6) ((iv1 - iv2) - iv8) → ((ob hv7 a0 1) ∧ wp_X1_highAt hv7 a0 x1 x2 (fun hv10 iv11 => (ob hv10 a0 1) ∧ wp_X1_highAt hv10 a0 x3 x4 (fun hv12 iv13 => ∀ iv14 : Int32, iv14 = mx ((iv4 - iv3) - iv11) ((iv3 - iv4) - iv13) → (post hv12 (mx (0 : Int32) (mx iv9 iv14))))))))))))
set_option maxRecDepth 100000 in
theorem c_X1_between (G : GG) (h : AH) (a0 : Nat) (x1 : Int32) (x2 : Int32) (x3 : Int32) (x4 : Int32) (post : AH → Int32 → Prop) (hw : wp_X1_between h a0 x1 x2 x3 x4 post) : MC G yX1_between cX1_between 11 (some .int) 1 22 h [.ref (G.1 + a0), .int x1, .int x2, .int x3, .int x4] (pI post) := by
  refine MC.of (lv := [(0, .ref (G.1 + a0)), (1, .int x1), (2, .int x2), (3, .int x3), (4, .int x4)]) (by decide) (Nat.le_of_ble_eq_true rfl) rfl fun p l e R s m args below meth c C hr hnm => ?_
  unfold wp_X1_between at hw
  refine r_iload_n C dX1_between_0 2 rfl ?_
  refine r_bipush (v := 7) C dX1_between_1 (by decide) ?_
  refine r_iand C dX1_between_3 ?_
  refine r_topi fun iv1 eiv1 => ?_
  replace hw := hw iv1 eiv1
  refine r_istore C dX1_between_4 [(5, .int iv1), (0, .ref (G.1 + a0)), (1, .int x1), (2, .int x2), (3, .int x3), (4, .int x4)] (by decide) rfl ?_
  refine r_iload C dX1_between_6 5 rfl ?_
  refine r_bipush (v := 7) C dX1_between_8 (by decide) ?_
  refine r_iand C dX1_between_10 ?_
  refine r_topi fun iv2 eiv2 => ?_
  replace hw := hw iv2 eiv2
  refine r_istore C dX1_between_11 [(6, .int iv2), (5, .int iv1), (0, .ref (G.1 + a0)), (1, .int x1), (2, .int x2), (3, .int x3), (4, .int x4)] (by decide) rfl ?_
  refine r_iload_n C dX1_between_13 4 rfl ?_
  refine r_iconst (v := 3) C dX1_between_14 (by decide) ?_
  refine r_ishr C dX1_between_15 ?_
  refine r_bipush (v := 7) C dX1_between_16 (by decide) ?_
  refine r_iand C dX1_between_18 ?_
  refine r_topi fun iv3 eiv3 => ?_
  replace hw := hw iv3 eiv3
  refine r_istore C dX1_between_19 [(7, .int iv3), (6, .int iv2), (5, .int iv1), (0, .ref (G.1 + a0)), (1, .int x1), (2, .int x2), (3, .int x3), (4, .int x4)] (by decide) rfl ?_
  refine r_iload C dX1_between_21 7 rfl ?_
  refine r_iconst (v := 3) C dX1_between_23 (by decide) ?_
  refine r_ishr C dX1_between_24 ?_
  refine r_bipush (v := 7) C dX1_between_25 (by decide) ?_
  refine r_iand C dX1_between_27 ?_
  refine r_topi fun iv4 eiv4 => ?_
  replace hw := hw iv4 eiv4
  refine r_istore C dX1_between_28 [(8, .int iv4), (7, .int iv3), (6, .int iv2), (5, .int iv1), (0, .ref (G.1 + a0)), (1, .int x1), (2, .int x2), (3, .int x3), (4, .int x4)] (by decide) rfl ?_
  refine r_iload C dX1_between_30 2 rfl ?_
  refine r_iload C dX1_between_32 3 rfl ?_
  refine r_isub C dX1_between_34 ?_
  refine r_aload_n C dX1_between_35 4 rfl ?_
  refine r_iload_n C dX1_between_36 5 rfl ?_
  refine r_iload_n C dX1_between_37 6 rfl ?_
  have hob := hw.1
  replace hw := hw.2
  refine r_callV C (As := [.int x1, .int x2]) (rest := [.int (iv2 - iv1)]) (c_X1_wideAt G h a0 x1 x2 _ hw) yl_X1_wideAt (gm3 (List.mem_of_getElem? (i := 210) rfl) rfl) (gm3 (List.mem_of_getElem? (i := 211) rfl) rfl) (ci := 1) rfl (by decide) (gm3 (List.mem_of_getElem? (i := 212) rfl) rfl) hob (by decide) rfl (Nat.le_of_ble_eq_true rfl) dX1_between_38 rfl (kI fun hv5 iv6 hw => ?_)
  refine r_isub C dX1_between_41 ?_
  refine r_iload C dX1_between_42 3 rfl ?_
  refine r_iload C dX1_between_44 2 rfl ?_
  refine r_isub C dX1_between_46 ?_
  refine r_aload_n C dX1_between_47 4 rfl ?_
  refine r_iload_n C dX1_between_48 7 rfl ?_
  refine r_iload C dX1_between_49 8 rfl ?_
  have hob := hw.1
  replace hw := hw.2
  refine r_callV C (As := [.int x3, .int x4]) (rest := [.int (iv1 - iv2), .int ((iv2 - iv1) - iv6)]) (c_X1_wideAt G hv5 a0 x3 x4 _ hw) yl_X1_wideAt (gm3 (List.mem_of_getElem? (i := 210) rfl) rfl) (gm3 (List.mem_of_getElem? (i := 211) rfl) rfl) (ci := 1) rfl (by decide) (gm3 (List.mem_of_getElem? (i := 212) rfl) rfl) hob (by decide) rfl (Nat.le_of_ble_eq_true rfl) dX1_between_51 rfl (kI fun hv7 iv8 hw => ?_)
  refine r_isub C dX1_between_54 ?_
  refine r_mmax C (gm4 (List.mem_of_getElem? (i := 13) rfl) rfl) (gm4 (List.mem_of_getElem? (i := 14) rfl) rfl) (gm1 (List.mem_of_getElem? (i := 19) rfl) rfl) (gm4 (List.mem_of_getElem? (i := 15) rfl) rfl) ⟨by decide, Nat.le_of_ble_eq_true rfl⟩ dX1_between_55 ?_
  refine r_topi fun iv9 eiv9 => ?_
  replace hw := hw iv9 eiv9
  refine r_istore C dX1_between_58 [(9, .int iv9), (8, .int iv4), (7, .int iv3), (6, .int iv2), (5, .int iv1), (0, .ref (G.1 + a0)), (1, .int x1), (2, .int x2), (3, .int x3), (4, .int x4)] (by decide) rfl ?_
  refine r_iload C dX1_between_60 1 rfl ?_
  refine r_iload C dX1_between_62 2 rfl ?_
  refine r_isub C dX1_between_64 ?_
  refine r_aload_n C dX1_between_65 5 rfl ?_
  refine r_iload_n C dX1_between_66 6 rfl ?_
  refine r_iload_n C dX1_between_67 7 rfl ?_
  have hob := hw.1
  replace hw := hw.2
  refine r_callV C (As := [.int x1, .int x2]) (rest := [.int (iv4 - iv3)]) (c_X1_highAt G hv7 a0 x1 x2 _ hw) yl_X1_highAt (gm3 (List.mem_of_getElem? (i := 214) rfl) rfl) (gm3 (List.mem_of_getElem? (i := 215) rfl) rfl) (ci := 1) rfl (by decide) (gm3 (List.mem_of_getElem? (i := 216) rfl) rfl) hob (by decide) rfl (Nat.le_of_ble_eq_true rfl) dX1_between_68 rfl (kI fun hv10 iv11 hw => ?_)
  refine r_isub C dX1_between_71 ?_
  refine r_iload C dX1_between_72 2 rfl ?_
  refine r_iload C dX1_between_74 1 rfl ?_
  refine r_isub C dX1_between_76 ?_
  refine r_aload_n C dX1_between_77 5 rfl ?_
  refine r_iload_n C dX1_between_78 8 rfl ?_
  refine r_iload C dX1_between_79 9 rfl ?_
  have hob := hw.1
  replace hw := hw.2
  refine r_callV C (As := [.int x3, .int x4]) (rest := [.int (iv3 - iv4), .int ((iv4 - iv3) - iv11)]) (c_X1_highAt G hv10 a0 x3 x4 _ hw) yl_X1_highAt (gm3 (List.mem_of_getElem? (i := 214) rfl) rfl) (gm3 (List.mem_of_getElem? (i := 215) rfl) rfl) (ci := 1) rfl (by decide) (gm3 (List.mem_of_getElem? (i := 216) rfl) rfl) hob (by decide) rfl (Nat.le_of_ble_eq_true rfl) dX1_between_81 rfl (kI fun hv12 iv13 hw => ?_)
  refine r_isub C dX1_between_84 ?_
  refine r_mmax C (gm4 (List.mem_of_getElem? (i := 13) rfl) rfl) (gm4 (List.mem_of_getElem? (i := 14) rfl) rfl) (gm1 (List.mem_of_getElem? (i := 19) rfl) rfl) (gm4 (List.mem_of_getElem? (i := 15) rfl) rfl) ⟨by decide, Nat.le_of_ble_eq_true rfl⟩ dX1_between_85 ?_
  refine r_topi fun iv14 eiv14 => ?_
  replace hw := hw iv14 eiv14
  refine r_istore C dX1_between_88 [(10, .int iv14), (9, .int iv9), (8, .int iv4), (7, .int iv3), (6, .int iv2), (5, .int iv1), (0, .ref (G.1 + a0)), (1, .int x1), (2, .int x2), (3, .int x3), (4, .int x4)] (by decide) rfl ?_
  refine r_iconst (v := 0) C dX1_between_90 (by decide) ?_
  refine r_iload C dX1_between_91 1 rfl ?_
  refine r_iload C dX1_between_93 0 rfl ?_
  refine r_mmax C (gm4 (List.mem_of_getElem? (i := 13) rfl) rfl) (gm4 (List.mem_of_getElem? (i := 14) rfl) rfl) (gm1 (List.mem_of_getElem? (i := 19) rfl) rfl) (gm4 (List.mem_of_getElem? (i := 15) rfl) rfl) ⟨by decide, Nat.le_of_ble_eq_true rfl⟩ dX1_between_95 ?_
  refine r_mmax C (gm4 (List.mem_of_getElem? (i := 13) rfl) rfl) (gm4 (List.mem_of_getElem? (i := 14) rfl) rfl) (gm1 (List.mem_of_getElem? (i := 19) rfl) rfl) (gm4 (List.mem_of_getElem? (i := 15) rfl) rfl) ⟨by decide, Nat.le_of_ble_eq_true rfl⟩ dX1_between_98 ?_
  exact r_iret C hr dX1_between_101 hw
theorem dX0_matchTwo_0 : decode cX0_matchTwo 0 = .ok (.aload_n 0, 1) := by decide +kernel
theorem dX0_matchTwo_1 : decode cX0_matchTwo 1 = .ok (.getfield 37, 3) := by decide +kernel
theorem dX0_matchTwo_4 : decode cX0_matchTwo 4 = .ok (.getfield 78, 3) := by decide +kernel
theorem dX0_matchTwo_7 : decode cX0_matchTwo 7 = .ok (.iload_n 1, 1) := by decide +kernel
theorem dX0_matchTwo_8 : decode cX0_matchTwo 8 = .ok (.iload_n 2, 1) := by decide +kernel
theorem dX0_matchTwo_9 : decode cX0_matchTwo 9 = .ok (.invokevirtual 82, 3) := by decide +kernel
theorem dX0_matchTwo_12 : decode cX0_matchTwo 12 = .ok (.istore_n 3, 1) := by decide +kernel
theorem dX0_matchTwo_13 : decode cX0_matchTwo 13 = .ok (.iconst 0, 1) := by decide +kernel
theorem dX0_matchTwo_14 : decode cX0_matchTwo 14 = .ok (.istore 4, 2) := by decide +kernel
theorem dX0_matchTwo_16 : decode cX0_matchTwo 16 = .ok (.iload 4, 2) := by decide +kernel
theorem dX0_matchTwo_18 : decode cX0_matchTwo 18 = .ok (.aload_n 0, 1) := by decide +kernel
theorem dX0_matchTwo_19 : decode cX0_matchTwo 19 = .ok (.getfield 11, 3) := by decide +kernel
theorem dX0_matchTwo_22 : decode cX0_matchTwo 22 = .ok (.iload_n 1, 1) := by decide +kernel
theorem dX0_matchTwo_23 : decode cX0_matchTwo 23 = .ok (.iaload, 1) := by decide +kernel
theorem dX0_matchTwo_24 : decode cX0_matchTwo 24 = .ok (.if_icmp .ge 146, 3) := by decide +kernel
theorem dX0_matchTwo_27 : decode cX0_matchTwo 27 = .ok (.iconst 0, 1) := by decide +kernel
theorem dX0_matchTwo_28 : decode cX0_matchTwo 28 = .ok (.istore 5, 2) := by decide +kernel
theorem dX0_matchTwo_30 : decode cX0_matchTwo 30 = .ok (.iload 5, 2) := by decide +kernel
theorem dX0_matchTwo_32 : decode cX0_matchTwo 32 = .ok (.aload_n 0, 1) := by decide +kernel
theorem dX0_matchTwo_33 : decode cX0_matchTwo 33 = .ok (.getfield 11, 3) := by decide +kernel
theorem dX0_matchTwo_36 : decode cX0_matchTwo 36 = .ok (.iload_n 2, 1) := by decide +kernel
theorem dX0_matchTwo_37 : decode cX0_matchTwo 37 = .ok (.iaload, 1) := by decide +kernel
theorem dX0_matchTwo_38 : decode cX0_matchTwo 38 = .ok (.if_icmp .ge 126, 3) := by decide +kernel
theorem dX0_matchTwo_41 : decode cX0_matchTwo 41 = .ok (.iload_n 1, 1) := by decide +kernel
theorem dX0_matchTwo_42 : decode cX0_matchTwo 42 = .ok (.bipush 40, 2) := by decide +kernel
theorem dX0_matchTwo_44 : decode cX0_matchTwo 44 = .ok (.imul, 1) := by decide +kernel
theorem dX0_matchTwo_45 : decode cX0_matchTwo 45 = .ok (.iload 4, 2) := by decide +kernel
theorem dX0_matchTwo_47 : decode cX0_matchTwo 47 = .ok (.iadd, 1) := by decide +kernel
theorem dX0_matchTwo_48 : decode cX0_matchTwo 48 = .ok (.istore 6, 2) := by decide +kernel
theorem dX0_matchTwo_50 : decode cX0_matchTwo 50 = .ok (.iload_n 2, 1) := by decide +kernel
theorem dX0_matchTwo_51 : decode cX0_matchTwo 51 = .ok (.bipush 40, 2) := by decide +kernel
theorem dX0_matchTwo_53 : decode cX0_matchTwo 53 = .ok (.imul, 1) := by decide +kernel
theorem dX0_matchTwo_54 : decode cX0_matchTwo 54 = .ok (.iload 5, 2) := by decide +kernel
theorem dX0_matchTwo_56 : decode cX0_matchTwo 56 = .ok (.iadd, 1) := by decide +kernel
theorem dX0_matchTwo_57 : decode cX0_matchTwo 57 = .ok (.istore 7, 2) := by decide +kernel
theorem dX0_matchTwo_59 : decode cX0_matchTwo 59 = .ok (.aload_n 0, 1) := by decide +kernel
theorem dX0_matchTwo_60 : decode cX0_matchTwo 60 = .ok (.getfield 18, 3) := by decide +kernel
theorem dX0_matchTwo_63 : decode cX0_matchTwo 63 = .ok (.iload 6, 2) := by decide +kernel
theorem dX0_matchTwo_65 : decode cX0_matchTwo 65 = .ok (.laload, 1) := by decide +kernel
theorem dX0_matchTwo_66 : decode cX0_matchTwo 66 = .ok (.aload_n 0, 1) := by decide +kernel
theorem dX0_matchTwo_67 : decode cX0_matchTwo 67 = .ok (.getfield 18, 3) := by decide +kernel
theorem dX0_matchTwo_70 : decode cX0_matchTwo 70 = .ok (.iload 7, 2) := by decide +kernel
theorem dX0_matchTwo_72 : decode cX0_matchTwo 72 = .ok (.laload, 1) := by decide +kernel
theorem dX0_matchTwo_73 : decode cX0_matchTwo 73 = .ok (.land, 1) := by decide +kernel
theorem dX0_matchTwo_74 : decode cX0_matchTwo 74 = .ok (.lconst 0, 1) := by decide +kernel
theorem dX0_matchTwo_75 : decode cX0_matchTwo 75 = .ok (.lcmp, 1) := by decide +kernel
theorem dX0_matchTwo_76 : decode cX0_matchTwo 76 = .ok (.ifCond .ne 82, 3) := by decide +kernel
theorem dX0_matchTwo_79 : decode cX0_matchTwo 79 = .ok (.iload_n 3, 1) := by decide +kernel
theorem dX0_matchTwo_80 : decode cX0_matchTwo 80 = .ok (.bipush 99, 2) := by decide +kernel
theorem dX0_matchTwo_82 : decode cX0_matchTwo 82 = .ok (.if_icmp .eq 30, 3) := by decide +kernel
theorem dX0_matchTwo_85 : decode cX0_matchTwo 85 = .ok (.aload_n 0, 1) := by decide +kernel
theorem dX0_matchTwo_86 : decode cX0_matchTwo 86 = .ok (.getfield 37, 3) := by decide +kernel
theorem dX0_matchTwo_89 : decode cX0_matchTwo 89 = .ok (.iload_n 1, 1) := by decide +kernel
theorem dX0_matchTwo_90 : decode cX0_matchTwo 90 = .ok (.aload_n 0, 1) := by decide +kernel
theorem dX0_matchTwo_91 : decode cX0_matchTwo 91 = .ok (.getfield 15, 3) := by decide +kernel
theorem dX0_matchTwo_94 : decode cX0_matchTwo 94 = .ok (.iload 6, 2) := by decide +kernel
theorem dX0_matchTwo_96 : decode cX0_matchTwo 96 = .ok (.iaload, 1) := by decide +kernel
theorem dX0_matchTwo_97 : decode cX0_matchTwo 97 = .ok (.iload_n 2, 1) := by decide +kernel
theorem dX0_matchTwo_98 : decode cX0_matchTwo 98 = .ok (.aload_n 0, 1) := by decide +kernel
theorem dX0_matchTwo_99 : decode cX0_matchTwo 99 = .ok (.getfield 15, 3) := by decide +kernel
theorem dX0_matchTwo_102 : decode cX0_matchTwo 102 = .ok (.iload 7, 2) := by decide +kernel
theorem dX0_matchTwo_104 : decode cX0_matchTwo 104 = .ok (.iaload, 1) := by decide +kernel
theorem dX0_matchTwo_105 : decode cX0_matchTwo 105 = .ok (.invokevirtual 88, 3) := by decide +kernel
theorem dX0_matchTwo_108 : decode cX0_matchTwo 108 = .ok (.iload_n 3, 1) := by decide +kernel
theorem dX0_matchTwo_109 : decode cX0_matchTwo 109 = .ok (.if_icmp .gt 49, 3) := by decide +kernel
theorem dX0_matchTwo_112 : decode cX0_matchTwo 112 = .ok (.aload_n 0, 1) := by decide +kernel
theorem dX0_matchTwo_113 : decode cX0_matchTwo 113 = .ok (.getfield 28, 3) := by decide +kernel
theorem dX0_matchTwo_116 : decode cX0_matchTwo 116 = .ok (.iload_n 1, 1) := by decide +kernel
theorem dX0_matchTwo_117 : decode cX0_matchTwo 117 = .ok (.iconst 3, 1) := by decide +kernel
theorem dX0_matchTwo_118 : decode cX0_matchTwo 118 = .ok (.imul, 1) := by decide +kernel
theorem dX0_matchTwo_119 : decode cX0_matchTwo 119 = .ok (.iload_n 2, 1) := by decide +kernel
theorem dX0_matchTwo_120 : decode cX0_matchTwo 120 = .ok (.iadd, 1) := by decide +kernel
theorem dX0_matchTwo_121 : decode cX0_matchTwo 121 = .ok (.bipush 40, 2) := by decide +kernel
theorem dX0_matchTwo_123 : decode cX0_matchTwo 123 = .ok (.imul, 1) := by decide +kernel
theorem dX0_matchTwo_124 : decode cX0_matchTwo 124 = .ok (.iload 4, 2) := by decide +kernel
theorem dX0_matchTwo_126 : decode cX0_matchTwo 126 = .ok (.iadd, 1) := by decide +kernel
theorem dX0_matchTwo_127 : decode cX0_matchTwo 127 = .ok (.dup2, 1) := by decide +kernel
theorem dX0_matchTwo_128 : decode cX0_matchTwo 128 = .ok (.laload, 1) := by decide +kernel
theorem dX0_matchTwo_129 : decode cX0_matchTwo 129 = .ok (.lconst 1, 1) := by decide +kernel
theorem dX0_matchTwo_130 : decode cX0_matchTwo 130 = .ok (.iload 5, 2) := by decide +kernel
theorem dX0_matchTwo_132 : decode cX0_matchTwo 132 = .ok (.lshl, 1) := by decide +kernel
theorem dX0_matchTwo_133 : decode cX0_matchTwo 133 = .ok (.lor, 1) := by decide +kernel
theorem dX0_matchTwo_134 : decode cX0_matchTwo 134 = .ok (.lastore, 1) := by decide +kernel
theorem dX0_matchTwo_135 : decode cX0_matchTwo 135 = .ok (.aload_n 0, 1) := by decide +kernel
theorem dX0_matchTwo_136 : decode cX0_matchTwo 136 = .ok (.getfield 28, 3) := by decide +kernel
theorem dX0_matchTwo_139 : decode cX0_matchTwo 139 = .ok (.iload_n 2, 1) := by decide +kernel
theorem dX0_matchTwo_140 : decode cX0_matchTwo 140 = .ok (.iconst 3, 1) := by decide +kernel
theorem dX0_matchTwo_141 : decode cX0_matchTwo 141 = .ok (.imul, 1) := by decide +kernel
theorem dX0_matchTwo_142 : decode cX0_matchTwo 142 = .ok (.iload_n 1, 1) := by decide +kernel
theorem dX0_matchTwo_143 : decode cX0_matchTwo 143 = .ok (.iadd, 1) := by decide +kernel
theorem dX0_matchTwo_144 : decode cX0_matchTwo 144 = .ok (.bipush 40, 2) := by decide +kernel
theorem dX0_matchTwo_146 : decode cX0_matchTwo 146 = .ok (.imul, 1) := by decide +kernel
theorem dX0_matchTwo_147 : decode cX0_matchTwo 147 = .ok (.iload 5, 2) := by decide +kernel
theorem dX0_matchTwo_149 : decode cX0_matchTwo 149 = .ok (.iadd, 1) := by decide +kernel
theorem dX0_matchTwo_150 : decode cX0_matchTwo 150 = .ok (.dup2, 1) := by decide +kernel
theorem dX0_matchTwo_151 : decode cX0_matchTwo 151 = .ok (.laload, 1) := by decide +kernel
theorem dX0_matchTwo_152 : decode cX0_matchTwo 152 = .ok (.lconst 1, 1) := by decide +kernel
theorem dX0_matchTwo_153 : decode cX0_matchTwo 153 = .ok (.iload 4, 2) := by decide +kernel
theorem dX0_matchTwo_155 : decode cX0_matchTwo 155 = .ok (.lshl, 1) := by decide +kernel
theorem dX0_matchTwo_156 : decode cX0_matchTwo 156 = .ok (.lor, 1) := by decide +kernel
theorem dX0_matchTwo_157 : decode cX0_matchTwo 157 = .ok (.lastore, 1) := by decide +kernel
theorem dX0_matchTwo_158 : decode cX0_matchTwo 158 = .ok (.iinc 5 1, 3) := by decide +kernel
theorem dX0_matchTwo_161 : decode cX0_matchTwo 161 = .ok (.goto (-131), 3) := by decide +kernel
theorem dX0_matchTwo_164 : decode cX0_matchTwo 164 = .ok (.iinc 4 1, 3) := by decide +kernel
theorem dX0_matchTwo_167 : decode cX0_matchTwo 167 = .ok (.goto (-151), 3) := by decide +kernel
theorem dX0_matchTwo_170 : decode cX0_matchTwo 170 = .ok (.return_, 1) := by decide +kernel
def wb_X0_matchTwo_158 (K16 : AH → Nat → Int32 → Int32 → Int32 → Int32 → Prop) (K30 : AH → Nat → Int32 → Int32 → Int32 → Int32 → Int32 → Prop) (h : AH) (al0 : Nat) (xl1 : Int32) (xl2 : Int32) (xl3 : Int32) (xl4 : Int32) (xl5 : Int32)  (post : AH → Prop) : Prop := ∀ iv1 : Int32, iv1 = xl5 + 1 → (K30 h al0 xl1 xl2 xl3 xl4 iv1)
set_option maxRecDepth 100000 in
theorem tb_X0_matchTwo_158 {G : GG} {p : Program} {l : Launch} {e : Env} {R : Room} {s : State} {m : MethodId} {args : Array Value} {below : List Frame} {meth : Method} {c : Code} {n0 s0 : Nat} {post : AH → Prop} (C : Cx G p R s m args meth c 8 cX0_matchTwo RX0 n0 s0 2 52) (hr : meth.sig.returnType = none) {K16 : AH → Nat → Int32 → Int32 → Int32 → Int32 → Prop} {K30 : AH → Nat → Int32 → Int32 → Int32 → Int32 → Int32 → Prop} (hK16 : ∀ (h : AH) (al0 : Nat) (xl1 : Int32) (xl2 : Int32) (xl3 : Int32) (xl4 : Int32), K16 h al0 xl1 xl2 xl3 xl4 → AW G p l e R s m args below meth c 8 (QM G (pV post) args s below n0 s0) 16 [(0, .ref (G.1 + al0)), (1, .int xl1), (2, .int xl2), (3, .int xl3), (4, .int xl4)] [] h) (hK30 : ∀ (h : AH) (al0 : Nat) (xl1 : Int32) (xl2 : Int32) (xl3 : Int32) (xl4 : Int32) (xl5 : Int32), K30 h al0 xl1 xl2 xl3 xl4 xl5 → AW G p l e R s m args below meth c 8 (QM G (pV post) args s below n0 s0) 30 [(0, .ref (G.1 + al0)), (1, .int xl1), (2, .int xl2), (3, .int xl3), (4, .int xl4), (5, .int xl5)] [] h) {h : AH} {al0 : Nat} {xl1 : Int32} {xl2 : Int32} {xl3 : Int32} {xl4 : Int32} {xl5 : Int32}  (hw : wb_X0_matchTwo_158 K16 K30 h al0 xl1 xl2 xl3 xl4 xl5 post) : AW G p l e R s m args below meth c 8 (QM G (pV post) args s below n0 s0) 158 [(0, .ref (G.1 + al0)), (1, .int xl1), (2, .int xl2), (3, .int xl3), (4, .int xl4), (5, .int xl5)] [] h := by
  unfold wb_X0_matchTwo_158 at hw
  obtain ⟨iv1, eiv1⟩ : ∃ q : Int32, q = xl5 + 1 := ⟨_, rfl⟩
  replace hw := hw iv1 eiv1
  refine r_iinc C dX0_matchTwo_158 5 rfl (by rw [eiv1]; rfl) [(5, .int iv1), (0, .ref (G.1 + al0)), (1, .int xl1), (2, .int xl2), (3, .int xl3), (4, .int xl4)] (by decide) rfl ?_
  refine r_goto C dX0_matchTwo_161 30 (by decide) ?_
  refine r_sub [1, 2, 3, 4, 5, 0] rfl ?_
  exact hK30 _ _ _ _ _ _ _ hw
def wb_X0_matchTwo_112 (K16 : AH → Nat → Int32 → Int32 → Int32 → Int32 → Prop) (K30 : AH → Nat → Int32 → Int32 → Int32 → Int32 → Int32 → Prop) (h : AH) (al0 : Nat) (xl1 : Int32) (xl2 : Int32) (xl3 : Int32) (xl4 : Int32) (xl5 : Int32)  (post : AH → Prop) : Prop := (ob h al0 0) ∧ (∃ rv1, aP h al0 6 = some rv1 ∧ ((ob h rv1 14) ∧ ((vp_in ((((xl1 * (3 : Int32)) + xl2) * (40 : Int32)) + xl4) (aL h rv1)) ∧ ((ob h rv1 14) ∧ ((vp_in ((((xl1 * (3 : Int32)) + xl2) * (40 : Int32)) + xl4) (aL h rv1)) ∧ (∀ hv2 : AH, hv2 = hJ h rv1 ((((xl1 * (3 : Int32)) + xl2) * (40 : Int32)) + xl4).toNatClampNeg ((aJ h rv1 ((((xl1 * (3 : Int32)) + xl2) * (40 : Int32)) + xl4).toNatClampNeg) ||| ((1 : Int64) <<< (xl5.toInt64 &&& 63))) → ((ob hv2 al0 0) ∧ (∃ rv3, aP hv2 al0 6 = some rv3 ∧ ((ob hv2 rv3 14) ∧ ((vp_in ((((xl2 * (3 : Int32)) + xl1) * (40 : Int32)) + xl5) (aL hv2 rv3)) ∧ ((ob hv2 rv3 14) ∧ ((vp_in ((((xl2 * (3 : Int32)) + xl1) * (40 : Int32)) + xl5) (aL hv2 rv3)) ∧ (∀ hv4 : AH, hv4 = hJ hv2 rv3 ((((xl2 * (3 : Int32)) + xl1) * (40 : Int32)) + xl5).toNatClampNeg ((aJ hv2 rv3 ((((xl2 * (3 : Int32)) + xl1) * (40 : Int32)) + xl5).toNatClampNeg) ||| ((1 : Int64) <<< (xl4.toInt64 &&& 63))) → (wb_X0_matchTwo_158 K16 K30 hv4 al0 xl1 xl2 xl3 xl4 xl5 post))))))))))))))
set_option maxRecDepth 100000 in
theorem tb_X0_matchTwo_112 {G : GG} {p : Program} {l : Launch} {e : Env} {R : Room} {s : State} {m : MethodId} {args : Array Value} {below : List Frame} {meth : Method} {c : Code} {n0 s0 : Nat} {post : AH → Prop} (C : Cx G p R s m args meth c 8 cX0_matchTwo RX0 n0 s0 2 52) (hr : meth.sig.returnType = none) {K16 : AH → Nat → Int32 → Int32 → Int32 → Int32 → Prop} {K30 : AH → Nat → Int32 → Int32 → Int32 → Int32 → Int32 → Prop} (hK16 : ∀ (h : AH) (al0 : Nat) (xl1 : Int32) (xl2 : Int32) (xl3 : Int32) (xl4 : Int32), K16 h al0 xl1 xl2 xl3 xl4 → AW G p l e R s m args below meth c 8 (QM G (pV post) args s below n0 s0) 16 [(0, .ref (G.1 + al0)), (1, .int xl1), (2, .int xl2), (3, .int xl3), (4, .int xl4)] [] h) (hK30 : ∀ (h : AH) (al0 : Nat) (xl1 : Int32) (xl2 : Int32) (xl3 : Int32) (xl4 : Int32) (xl5 : Int32), K30 h al0 xl1 xl2 xl3 xl4 xl5 → AW G p l e R s m args below meth c 8 (QM G (pV post) args s below n0 s0) 30 [(0, .ref (G.1 + al0)), (1, .int xl1), (2, .int xl2), (3, .int xl3), (4, .int xl4), (5, .int xl5)] [] h) {h : AH} {al0 : Nat} {xl1 : Int32} {xl2 : Int32} {xl3 : Int32} {xl4 : Int32} {xl5 : Int32}  (hw : wb_X0_matchTwo_112 K16 K30 h al0 xl1 xl2 xl3 xl4 xl5 post) : AW G p l e R s m args below meth c 8 (QM G (pV post) args s below n0 s0) 112 [(0, .ref (G.1 + al0)), (1, .int xl1), (2, .int xl2), (3, .int xl3), (4, .int xl4), (5, .int xl5)] [] h := by
  unfold wb_X0_matchTwo_112 at hw
  refine r_aload_n C dX0_matchTwo_112 0 rfl ?_
  have hob := hw.1
  obtain ⟨rv1, hp, hw⟩ := hw.2
  refine r_getP C fl_RX0_28_0 hob hp (fun _ _ _ => rfl) dX0_matchTwo_113 ?_
  refine r_iload_n C dX0_matchTwo_116 1 rfl ?_
  refine r_iconst (v := 3) C dX0_matchTwo_117 (by decide) ?_
  refine r_imul C dX0_matchTwo_118 ?_
  refine r_iload_n C dX0_matchTwo_119 2 rfl ?_
  refine r_iadd C dX0_matchTwo_120 ?_
  refine r_bipush (v := 40) C dX0_matchTwo_121 (by decide) ?_
  refine r_imul C dX0_matchTwo_123 ?_
  refine r_iload C dX0_matchTwo_124 4 rfl ?_
  refine r_iadd C dX0_matchTwo_126 ?_
  refine r_dup2 C dX0_matchTwo_127 rfl rfl ?_
  refine r_laload C hw.1 hw.2.1 dX0_matchTwo_128 ?_
  replace hw := hw.2.2
  refine r_lconst (v := 1) C dX0_matchTwo_129 (by decide) ?_
  refine r_iload C dX0_matchTwo_130 5 rfl ?_
  refine r_lshl C dX0_matchTwo_132 ?_
  refine r_lor C dX0_matchTwo_133 ?_
  refine r_lastore C hw.1 hw.2.1 dX0_matchTwo_134 ?_
  replace hw := hw.2.2
  refine r_toph fun hv2 ehv2 => ?_
  replace hw := hw hv2 ehv2
  refine r_aload_n C dX0_matchTwo_135 0 rfl ?_
  have hob := hw.1
  obtain ⟨rv3, hp, hw⟩ := hw.2
  refine r_getP C fl_RX0_28_0 hob hp (fun _ _ _ => rfl) dX0_matchTwo_136 ?_
  refine r_iload_n C dX0_matchTwo_139 2 rfl ?_
  refine r_iconst (v := 3) C dX0_matchTwo_140 (by decide) ?_
  refine r_imul C dX0_matchTwo_141 ?_
  refine r_iload_n C dX0_matchTwo_142 1 rfl ?_
  refine r_iadd C dX0_matchTwo_143 ?_
  refine r_bipush (v := 40) C dX0_matchTwo_144 (by decide) ?_
  refine r_imul C dX0_matchTwo_146 ?_
  refine r_iload C dX0_matchTwo_147 5 rfl ?_
  refine r_iadd C dX0_matchTwo_149 ?_
  refine r_dup2 C dX0_matchTwo_150 rfl rfl ?_
  refine r_laload C hw.1 hw.2.1 dX0_matchTwo_151 ?_
  replace hw := hw.2.2
  refine r_lconst (v := 1) C dX0_matchTwo_152 (by decide) ?_
  refine r_iload C dX0_matchTwo_153 4 rfl ?_
  refine r_lshl C dX0_matchTwo_155 ?_
  refine r_lor C dX0_matchTwo_156 ?_
  refine r_lastore C hw.1 hw.2.1 dX0_matchTwo_157 ?_
  replace hw := hw.2.2
  refine r_toph fun hv4 ehv4 => ?_
  replace hw := hw hv4 ehv4
  refine r_sub [0, 1, 2, 3, 4, 5] rfl ?_
  exact tb_X0_matchTwo_158 C hr hK16 hK30 hw
def wb_X0_matchTwo_30 (K16 : AH → Nat → Int32 → Int32 → Int32 → Int32 → Prop) (K30 : AH → Nat → Int32 → Int32 → Int32 → Int32 → Int32 → Prop) (h : AH) (al0 : Nat) (xl1 : Int32) (xl2 : Int32) (xl3 : Int32) (xl4 : Int32) (xl5 : Int32)  (post : AH → Prop) : Prop := (ob h al0 0) ∧ (∃ rv1, aP h al0 1 = some rv1 ∧ ((ob h rv1 13) ∧ ((vp_in xl2 (aL h rv1)) ∧ (((aI h rv1 xl2.toNatClampNeg) ≤ xl5 → (∀ iv2 : Int32, iv2 = xl4 + 1 → (K16 h al0 xl1 xl2 xl3 iv2))) ∧ (¬ (aI h rv1 xl2.toNatClampNeg) ≤ xl5 → (∀ iv3 : Int32, iv3 = (xl1 * (40 : Int32)) + xl4 → (∀ iv4 : Int32, iv4 = (xl2 * (40 : Int32)) + xl5 → ((ob h al0 0) ∧ (∃ rv5, aP h al0 3 = some rv5 ∧ ((ob h rv5 14) ∧ ((vp_in iv3 (aL h rv5)) ∧ ((ob h al0 0) ∧ (∃ rv6, aP h al0 3 = some rv6 ∧ ((ob h rv6 14) ∧ ((vp_in iv4 (aL h rv6)) ∧ ((¬ (lg_cmp ((aJ h rv5 iv3.toNatClampNeg) &&& (aJ h rv6 iv4.toNatClampNeg)) 0) = 0 → (wb_X0_matchTwo_158 K16 K30 h al0 xl1 xl2 xl3 xl4 xl5 post)) ∧ ((lg_cmp ((aJ h rv5 iv3.toNatClampNeg) &&& (aJ h rv6 iv4.toNatClampNeg)) 0) = 0 → ((xl3 = 99 → (wb_X0_matchTwo_112 K16 K30 h al0 xl1 xl2 xl3 xl4 xl5 post)) ∧ (¬ xl3 = 99 → ((ob h al0 0) ∧ (∃ rv7, aP h al0 0 = some rv7 ∧ ((ob h al0 0) ∧ (∃ rv8, aP h al0 2 = some rv8 ∧ ((ob h rv8 13) ∧ ((vp_in iv3 (aL h rv8)) ∧ ((ob h al0 0) ∧ (∃ rv9, aP h al0 2 = some rv9 ∧ ((ob h rv9 13) ∧ ((vp_in iv4 (aL h rv9)) ∧ ((ob h rv7 1) ∧ wp_X1_between h rv7 xl1 (aI h rv8 iv3.toNatClampNeg) xl2 (aI h rv9 iv4.toNatClampNeg) (fun hv10 iv11 => (xl3 < iv11 → (wb_X0_matchTwo_158 K16 K30 hv10 al0 xl1 xl2 xl3 xl4 xl5 post)) ∧ (¬ xl3 < iv11 → (wb_X0_matchTwo_112 K16 K30 hv10 al0 xl1 xl2 xl3 xl4 xl5 post)))))))))))))))))))))))))))))))))
set_option maxRecDepth 100000 in
theorem tb_X0_matchTwo_30 {G : GG} {p : Program} {l : Launch} {e : Env} {R : Room} {s : State} {m : MethodId} {args : Array Value} {below : List Frame} {meth : Method} {c : Code} {n0 s0 : Nat} {post : AH → Prop} (C : Cx G p R s m args meth c 8 cX0_matchTwo RX0 n0 s0 2 52) (hr : meth.sig.returnType = none) {K16 : AH → Nat → Int32 → Int32 → Int32 → Int32 → Prop} {K30 : AH → Nat → Int32 → Int32 → Int32 → Int32 → Int32 → Prop} (hK16 : ∀ (h : AH) (al0 : Nat) (xl1 : Int32) (xl2 : Int32) (xl3 : Int32) (xl4 : Int32), K16 h al0 xl1 xl2 xl3 xl4 → AW G p l e R s m args below meth c 8 (QM G (pV post) args s below n0 s0) 16 [(0, .ref (G.1 + al0)), (1, .int xl1), (2, .int xl2), (3, .int xl3), (4, .int xl4)] [] h) (hK30 : ∀ (h : AH) (al0 : Nat) (xl1 : Int32) (xl2 : Int32) (xl3 : Int32) (xl4 : Int32) (xl5 : Int32), K30 h al0 xl1 xl2 xl3 xl4 xl5 → AW G p l e R s m args below meth c 8 (QM G (pV post) args s below n0 s0) 30 [(0, .ref (G.1 + al0)), (1, .int xl1), (2, .int xl2), (3, .int xl3), (4, .int xl4), (5, .int xl5)] [] h) {h : AH} {al0 : Nat} {xl1 : Int32} {xl2 : Int32} {xl3 : Int32} {xl4 : Int32} {xl5 : Int32}  (hw : wb_X0_matchTwo_30 K16 K30 h al0 xl1 xl2 xl3 xl4 xl5 post) : AW G p l e R s m args below meth c 8 (QM G (pV post) args s below n0 s0) 30 [(0, .ref (G.1 + al0)), (1, .int xl1), (2, .int xl2), (3, .int xl3), (4, .int xl4), (5, .int xl5)] [] h := by
  unfold wb_X0_matchTwo_30 at hw
  refine r_iload C dX0_matchTwo_30 5 rfl ?_
  refine r_aload_n C dX0_matchTwo_32 0 rfl ?_
  have hob := hw.1
  obtain ⟨rv1, hp, hw⟩ := hw.2
  refine r_getP C fl_RX0_11_0 hob hp (fun _ _ _ => rfl) dX0_matchTwo_33 ?_
  refine r_iload_n C dX0_matchTwo_36 2 rfl ?_
  refine r_iaload C hw.1 hw.2.1 dX0_matchTwo_37 ?_
  replace hw := hw.2.2
  refine r_icmp_ge C dX0_matchTwo_38 164 (by decide) (fun hc => ?_) (fun hc => ?_)
  · replace hw := hw.1 hc
    obtain ⟨iv2, eiv2⟩ : ∃ q : Int32, q = xl4 + 1 := ⟨_, rfl⟩
    replace hw := hw iv2 eiv2
    refine r_iinc C dX0_matchTwo_164 4 rfl (by rw [eiv2]; rfl) [(4, .int iv2), (0, .ref (G.1 + al0)), (1, .int xl1), (2, .int xl2), (3, .int xl3), (5, .int xl5)] (by decide) rfl ?_
    refine r_goto C dX0_matchTwo_167 16 (by decide) ?_
    refine r_sub [1, 2, 3, 4, 0] rfl ?_
    exact hK16 _ _ _ _ _ _ hw
  · replace hw := hw.2 hc
    refine r_iload_n C dX0_matchTwo_41 1 rfl ?_
    refine r_bipush (v := 40) C dX0_matchTwo_42 (by decide) ?_
    refine r_imul C dX0_matchTwo_44 ?_
    refine r_iload C dX0_matchTwo_45 4 rfl ?_
    refine r_iadd C dX0_matchTwo_47 ?_
    refine r_topi fun iv3 eiv3 => ?_
    replace hw := hw iv3 eiv3
    refine r_istore C dX0_matchTwo_48 [(6, .int iv3), (0, .ref (G.1 + al0)), (1, .int xl1), (2, .int xl2), (3, .int xl3), (4, .int xl4), (5, .int xl5)] (by decide) rfl ?_
    refine r_iload_n C dX0_matchTwo_50 3 rfl ?_
    refine r_bipush (v := 40) C dX0_matchTwo_51 (by decide) ?_
    refine r_imul C dX0_matchTwo_53 ?_
    refine r_iload C dX0_matchTwo_54 6 rfl ?_
    refine r_iadd C dX0_matchTwo_56 ?_
    refine r_topi fun iv4 eiv4 => ?_
    replace hw := hw iv4 eiv4
    refine r_istore C dX0_matchTwo_57 [(7, .int iv4), (6, .int iv3), (0, .ref (G.1 + al0)), (1, .int xl1), (2, .int xl2), (3, .int xl3), (4, .int xl4), (5, .int xl5)] (by decide) rfl ?_
    refine r_aload_n C dX0_matchTwo_59 2 rfl ?_
    have hob := hw.1
    obtain ⟨rv5, hp, hw⟩ := hw.2
    refine r_getP C fl_RX0_18_0 hob hp (fun _ _ _ => rfl) dX0_matchTwo_60 ?_
    refine r_iload C dX0_matchTwo_63 1 rfl ?_
    refine r_laload C hw.1 hw.2.1 dX0_matchTwo_65 ?_
    replace hw := hw.2.2
    refine r_aload_n C dX0_matchTwo_66 2 rfl ?_
    have hob := hw.1
    obtain ⟨rv6, hp, hw⟩ := hw.2
    refine r_getP C fl_RX0_18_0 hob hp (fun _ _ _ => rfl) dX0_matchTwo_67 ?_
    refine r_iload C dX0_matchTwo_70 0 rfl ?_
    refine r_laload C hw.1 hw.2.1 dX0_matchTwo_72 ?_
    replace hw := hw.2.2
    refine r_land C dX0_matchTwo_73 ?_
    refine r_lconst (v := 0) C dX0_matchTwo_74 (by decide) ?_
    refine r_lcmp C dX0_matchTwo_75 ?_
    refine r_if_ne C dX0_matchTwo_76 158 (by decide) (fun hc => ?_) (fun hc => ?_)
    · replace hw := hw.1 hc
      refine r_sub [2, 3, 4, 5, 6, 7] rfl ?_
      exact tb_X0_matchTwo_158 C hr hK16 hK30 hw
    · replace hw := hw.2 hc
      refine r_iload_n C dX0_matchTwo_79 5 rfl ?_
      refine r_bipush (v := 99) C dX0_matchTwo_80 (by decide) ?_
      refine r_icmp_eq C dX0_matchTwo_82 112 (by decide) (fun hc => ?_) (fun hc => ?_)
      · replace hw := hw.1 hc
        refine r_sub [2, 3, 4, 5, 6, 7] rfl ?_
        exact tb_X0_matchTwo_112 C hr hK16 hK30 hw
      · replace hw := hw.2 hc
        refine r_aload_n C dX0_matchTwo_85 2 rfl ?_
        have hob := hw.1
        obtain ⟨rv7, hp, hw⟩ := hw.2
        refine r_getP C fl_RX0_37_0 hob hp (fun _ _ _ => rfl) dX0_matchTwo_86 ?_
        refine r_iload_n C dX0_matchTwo_89 3 rfl ?_
        refine r_aload_n C dX0_matchTwo_90 2 rfl ?_
        have hob := hw.1
        obtain ⟨rv8, hp, hw⟩ := hw.2
        refine r_getP C fl_RX0_15_0 hob hp (fun _ _ _ => rfl) dX0_matchTwo_91 ?_
        refine r_iload C dX0_matchTwo_94 1 rfl ?_
        refine r_iaload C hw.1 hw.2.1 dX0_matchTwo_96 ?_
        replace hw := hw.2.2
        refine r_iload_n C dX0_matchTwo_97 4 rfl ?_
        refine r_aload_n C dX0_matchTwo_98 2 rfl ?_
        have hob := hw.1
        obtain ⟨rv9, hp, hw⟩ := hw.2
        refine r_getP C fl_RX0_15_0 hob hp (fun _ _ _ => rfl) dX0_matchTwo_99 ?_
        refine r_iload C dX0_matchTwo_102 0 rfl ?_
        refine r_iaload C hw.1 hw.2.1 dX0_matchTwo_104 ?_
        replace hw := hw.2.2
        have hob := hw.1
        replace hw := hw.2
        refine r_callV C (As := [.int xl1, .int (aI h rv8 iv3.toNatClampNeg), .int xl2, .int (aI h rv9 iv4.toNatClampNeg)]) (rest := []) (c_X1_between G h rv7 xl1 (aI h rv8 iv3.toNatClampNeg) xl2 (aI h rv9 iv4.toNatClampNeg) _ hw) yl_X1_between (gm5 (List.mem_of_getElem? (i := 108) rfl) rfl) (gm4 (List.mem_of_getElem? (i := 10) rfl) rfl) (ci := 1) rfl (by decide) (gm4 (List.mem_of_getElem? (i := 11) rfl) rfl) hob (by decide) rfl (Nat.le_of_ble_eq_true rfl) dX0_matchTwo_105 rfl (kI fun hv10 iv11 hw => ?_)
        refine r_iload_n C dX0_matchTwo_108 5 rfl ?_
        refine r_icmp_gt C dX0_matchTwo_109 158 (by decide) (fun hc => ?_) (fun hc => ?_)
        · replace hw := hw.1 hc
          refine r_sub [2, 3, 4, 5, 6, 7] rfl ?_
          exact tb_X0_matchTwo_158 C hr hK16 hK30 hw
        · replace hw := hw.2 hc
          refine r_sub [2, 3, 4, 5, 6, 7] rfl ?_
          exact tb_X0_matchTwo_112 C hr hK16 hK30 hw
def wl_X0_matchTwo_30 (K16 : AH → Nat → Int32 → Int32 → Int32 → Int32 → Prop) (post : AH → Prop) : Nat → AH → Nat → Int32 → Int32 → Int32 → Int32 → Int32 → Prop
  | 0 => fun _ _ _ _ _ _ _ => False
  | n + 1 => fun h al0 xl1 xl2 xl3 xl4 xl5 => wb_X0_matchTwo_30 K16 (wl_X0_matchTwo_30 K16 post n) h al0 xl1 xl2 xl3 xl4 xl5 post
theorem tl_X0_matchTwo_30 {G : GG} {p : Program} {l : Launch} {e : Env} {R : Room} {s : State} {m : MethodId} {args : Array Value} {below : List Frame} {meth : Method} {c : Code} {n0 s0 : Nat} {post : AH → Prop} (C : Cx G p R s m args meth c 8 cX0_matchTwo RX0 n0 s0 2 52) (hr : meth.sig.returnType = none) {K16 : AH → Nat → Int32 → Int32 → Int32 → Int32 → Prop} (hK16 : ∀ (h : AH) (al0 : Nat) (xl1 : Int32) (xl2 : Int32) (xl3 : Int32) (xl4 : Int32), K16 h al0 xl1 xl2 xl3 xl4 → AW G p l e R s m args below meth c 8 (QM G (pV post) args s below n0 s0) 16 [(0, .ref (G.1 + al0)), (1, .int xl1), (2, .int xl2), (3, .int xl3), (4, .int xl4)] [] h) : ∀ (n : Nat) (h : AH) (al0 : Nat) (xl1 : Int32) (xl2 : Int32) (xl3 : Int32) (xl4 : Int32) (xl5 : Int32), wl_X0_matchTwo_30 K16 post n h al0 xl1 xl2 xl3 xl4 xl5 → AW G p l e R s m args below meth c 8 (QM G (pV post) args s below n0 s0) 30 [(0, .ref (G.1 + al0)), (1, .int xl1), (2, .int xl2), (3, .int xl3), (4, .int xl4), (5, .int xl5)] [] h := by
  intro n
  induction n with
  | zero => intro h al0 xl1 xl2 xl3 xl4 xl5 hw; exact hw.elim
  | succ n ih => intro h al0 xl1 xl2 xl3 xl4 xl5 hw; exact tb_X0_matchTwo_30 C hr hK16 ih hw
def wb_X0_matchTwo_16 (K16 : AH → Nat → Int32 → Int32 → Int32 → Int32 → Prop) (h : AH) (al0 : Nat) (xl1 : Int32) (xl2 : Int32) (xl3 : Int32) (xl4 : Int32)  (post : AH → Prop) : Prop := (ob h al0 0) ∧ (∃ rv1, aP h al0 1 = some rv1 ∧ ((ob h rv1 13) ∧ ((vp_in xl1 (aL h rv1)) ∧ (((aI h rv1 xl1.toNatClampNeg) ≤ xl4 → (post h)) ∧ (¬ (aI h rv1 xl1.toNatClampNeg) ≤ xl4 → (∃ n, wl_X0_matchTwo_30 K16 post n h al0 xl1 xl2 xl3 xl4 0))))))
set_option maxRecDepth 100000 in
theorem tb_X0_matchTwo_16 {G : GG} {p : Program} {l : Launch} {e : Env} {R : Room} {s : State} {m : MethodId} {args : Array Value} {below : List Frame} {meth : Method} {c : Code} {n0 s0 : Nat} {post : AH → Prop} (C : Cx G p R s m args meth c 8 cX0_matchTwo RX0 n0 s0 2 52) (hr : meth.sig.returnType = none) {K16 : AH → Nat → Int32 → Int32 → Int32 → Int32 → Prop} (hK16 : ∀ (h : AH) (al0 : Nat) (xl1 : Int32) (xl2 : Int32) (xl3 : Int32) (xl4 : Int32), K16 h al0 xl1 xl2 xl3 xl4 → AW G p l e R s m args below meth c 8 (QM G (pV post) args s below n0 s0) 16 [(0, .ref (G.1 + al0)), (1, .int xl1), (2, .int xl2), (3, .int xl3), (4, .int xl4)] [] h) {h : AH} {al0 : Nat} {xl1 : Int32} {xl2 : Int32} {xl3 : Int32} {xl4 : Int32}  (hw : wb_X0_matchTwo_16 K16 h al0 xl1 xl2 xl3 xl4 post) : AW G p l e R s m args below meth c 8 (QM G (pV post) args s below n0 s0) 16 [(0, .ref (G.1 + al0)), (1, .int xl1), (2, .int xl2), (3, .int xl3), (4, .int xl4)] [] h := by
  unfold wb_X0_matchTwo_16 at hw
  refine r_iload C dX0_matchTwo_16 4 rfl ?_
  refine r_aload_n C dX0_matchTwo_18 0 rfl ?_
  have hob := hw.1
  obtain ⟨rv1, hp, hw⟩ := hw.2
  refine r_getP C fl_RX0_11_0 hob hp (fun _ _ _ => rfl) dX0_matchTwo_19 ?_
  refine r_iload_n C dX0_matchTwo_22 1 rfl ?_
  refine r_iaload C hw.1 hw.2.1 dX0_matchTwo_23 ?_
  replace hw := hw.2.2
  refine r_icmp_ge C dX0_matchTwo_24 170 (by decide) (fun hc => ?_) (fun hc => ?_)
  · replace hw := hw.1 hc
    exact r_vret C hr dX0_matchTwo_170 hw
  · replace hw := hw.2 hc
    refine r_iconst (v := 0) C dX0_matchTwo_27 (by decide) ?_
    refine r_istore C dX0_matchTwo_28 [(5, .int 0), (0, .ref (G.1 + al0)), (1, .int xl1), (2, .int xl2), (3, .int xl3), (4, .int xl4)] (by decide) rfl ?_
    refine r_sub [1, 2, 3, 4, 5, 0] rfl ?_
    obtain ⟨n, hw⟩ := hw
    exact tl_X0_matchTwo_30 C hr hK16 n _ _ _ _ _ _ _ hw
def wl_X0_matchTwo_16  (post : AH → Prop) : Nat → AH → Nat → Int32 → Int32 → Int32 → Int32 → Prop
  | 0 => fun _ _ _ _ _ _ => False
  | n + 1 => fun h al0 xl1 xl2 xl3 xl4 => wb_X0_matchTwo_16  (wl_X0_matchTwo_16  post n) h al0 xl1 xl2 xl3 xl4 post
theorem tl_X0_matchTwo_16 {G : GG} {p : Program} {l : Launch} {e : Env} {R : Room} {s : State} {m : MethodId} {args : Array Value} {below : List Frame} {meth : Method} {c : Code} {n0 s0 : Nat} {post : AH → Prop} (C : Cx G p R s m args meth c 8 cX0_matchTwo RX0 n0 s0 2 52) (hr : meth.sig.returnType = none)   : ∀ (n : Nat) (h : AH) (al0 : Nat) (xl1 : Int32) (xl2 : Int32) (xl3 : Int32) (xl4 : Int32), wl_X0_matchTwo_16  post n h al0 xl1 xl2 xl3 xl4 → AW G p l e R s m args below meth c 8 (QM G (pV post) args s below n0 s0) 16 [(0, .ref (G.1 + al0)), (1, .int xl1), (2, .int xl2), (3, .int xl3), (4, .int xl4)] [] h := by
  intro n
  induction n with
  | zero => intro h al0 xl1 xl2 xl3 xl4 hw; exact hw.elim
  | succ n ih => intro h al0 xl1 xl2 xl3 xl4 hw; exact tb_X0_matchTwo_16 C hr  ih hw
def wp_X0_matchTwo (h : AH) (a0 : Nat) (x1 : Int32) (x2 : Int32) (post : AH → Prop) : Prop := (ob h a0 0) ∧ (∃ rv1, aP h a0 0 = some rv1 ∧ ((ob h rv1 1) ∧ (∃ rv2, aP h rv1 14 = some rv2 ∧ ((ob h rv2 4) ∧ wp_X4_reachOf h rv2 x1 x2 (fun hv3 iv4 => ∃ n, wl_X0_matchTwo_16  post n hv3 a0 x1 x2 iv4 0)))))
set_option maxRecDepth 100000 in
theorem c_X0_matchTwo (G : GG) (h : AH) (a0 : Nat) (x1 : Int32) (x2 : Int32) (post : AH → Prop) (hw : wp_X0_matchTwo h a0 x1 x2 post) : MC G yX0_matchTwo cX0_matchTwo 8 none 2 52 h [.ref (G.1 + a0), .int x1, .int x2] (pV post) := by
  refine MC.of (lv := [(0, .ref (G.1 + a0)), (1, .int x1), (2, .int x2)]) (by decide) (Nat.le_of_ble_eq_true rfl) rfl fun p l e R s m args below meth c C hr hnm => ?_
  unfold wp_X0_matchTwo at hw
  refine r_aload_n C dX0_matchTwo_0 0 rfl ?_
  have hob := hw.1
  obtain ⟨rv1, hp, hw⟩ := hw.2
  refine r_getP C fl_RX0_37_0 hob hp (fun _ _ _ => rfl) dX0_matchTwo_1 ?_
  have hob := hw.1
  obtain ⟨rv2, hp, hw⟩ := hw.2
  refine r_getP C fl_RX0_78_1 hob hp (fun _ _ _ => rfl) dX0_matchTwo_4 ?_
  refine r_iload_n C dX0_matchTwo_7 1 rfl ?_
  refine r_iload_n C dX0_matchTwo_8 2 rfl ?_
  have hob := hw.1
  replace hw := hw.2
  refine r_callV C (As := [.int x1, .int x2]) (rest := []) (c_X4_reachOf G h rv2 x1 x2 _ hw) yl_X4_reachOf (gm5 (List.mem_of_getElem? (i := 107) rfl) rfl) (gm4 (List.mem_of_getElem? (i := 6) rfl) rfl) (ci := 4) rfl (by decide) (gm4 (List.mem_of_getElem? (i := 7) rfl) rfl) hob (by decide) rfl (Nat.le_of_ble_eq_true rfl) dX0_matchTwo_9 rfl (kI fun hv3 iv4 hw => ?_)
  refine r_istore_n C dX0_matchTwo_12 [(3, .int iv4), (0, .ref (G.1 + a0)), (1, .int x1), (2, .int x2)] (by decide) rfl ?_
  refine r_iconst (v := 0) C dX0_matchTwo_13 (by decide) ?_
  refine r_istore C dX0_matchTwo_14 [(4, .int 0), (3, .int iv4), (0, .ref (G.1 + a0)), (1, .int x1), (2, .int x2)] (by decide) rfl ?_
  refine r_sub [2, 3, 4, 1, 0] rfl ?_
  obtain ⟨n, hw⟩ := hw
  exact tl_X0_matchTwo_16 C hr  n _ _ _ _ _ _ hw
theorem dX0_match_0 : decode cX0_match 0 = .ok (.aload_n 0, 1) := by decide +kernel
theorem dX0_match_1 : decode cX0_match 1 = .ok (.getfield 28, 3) := by decide +kernel
theorem dX0_match_4 : decode cX0_match 4 = .ok (.lconst 0, 1) := by decide +kernel
theorem dX0_match_5 : decode cX0_match 5 = .ok (.invokestatic 68, 3) := by decide +kernel
theorem dX0_match_8 : decode cX0_match 8 = .ok (.iconst 0, 1) := by decide +kernel
theorem dX0_match_9 : decode cX0_match 9 = .ok (.istore_n 1, 1) := by decide +kernel
theorem dX0_match_10 : decode cX0_match 10 = .ok (.iload_n 1, 1) := by decide +kernel
theorem dX0_match_11 : decode cX0_match 11 = .ok (.iconst 3, 1) := by decide +kernel
theorem dX0_match_12 : decode cX0_match 12 = .ok (.if_icmp .ge 30, 3) := by decide +kernel
theorem dX0_match_15 : decode cX0_match 15 = .ok (.iload_n 1, 1) := by decide +kernel
theorem dX0_match_16 : decode cX0_match 16 = .ok (.iconst 1, 1) := by decide +kernel
theorem dX0_match_17 : decode cX0_match 17 = .ok (.iadd, 1) := by decide +kernel
theorem dX0_match_18 : decode cX0_match 18 = .ok (.istore_n 2, 1) := by decide +kernel
theorem dX0_match_19 : decode cX0_match 19 = .ok (.iload_n 2, 1) := by decide +kernel
theorem dX0_match_20 : decode cX0_match 20 = .ok (.iconst 3, 1) := by decide +kernel
theorem dX0_match_21 : decode cX0_match 21 = .ok (.if_icmp .ge 15, 3) := by decide +kernel
theorem dX0_match_24 : decode cX0_match 24 = .ok (.aload_n 0, 1) := by decide +kernel
theorem dX0_match_25 : decode cX0_match 25 = .ok (.iload_n 1, 1) := by decide +kernel
theorem dX0_match_26 : decode cX0_match 26 = .ok (.iload_n 2, 1) := by decide +kernel
theorem dX0_match_27 : decode cX0_match 27 = .ok (.invokevirtual 74, 3) := by decide +kernel
theorem dX0_match_30 : decode cX0_match 30 = .ok (.iinc 2 1, 3) := by decide +kernel
theorem dX0_match_33 : decode cX0_match 33 = .ok (.goto (-14), 3) := by decide +kernel
theorem dX0_match_36 : decode cX0_match 36 = .ok (.iinc 1 1, 3) := by decide +kernel
theorem dX0_match_39 : decode cX0_match 39 = .ok (.goto (-29), 3) := by decide +kernel
theorem dX0_match_42 : decode cX0_match 42 = .ok (.return_, 1) := by decide +kernel
def wb_X0_match_19 (K10 : AH → Nat → Int32 → Prop) (K19 : AH → Nat → Int32 → Int32 → Prop) (h : AH) (al0 : Nat) (xl1 : Int32) (xl2 : Int32)  (post : AH → Prop) : Prop := (3 ≤ xl2 → (∀ iv1 : Int32, iv1 = xl1 + 1 → (K10 h al0 iv1))) ∧ (¬ 3 ≤ xl2 → ((ob h al0 0) ∧ wp_X0_matchTwo h al0 xl1 xl2 (fun hv2  => ∀ iv3 : Int32, iv3 = xl2 + 1 → (K19 hv2 al0 xl1 iv3))))
set_option maxRecDepth 100000 in
theorem tb_X0_match_19 {G : GG} {p : Program} {l : Launch} {e : Env} {R : Room} {s : State} {m : MethodId} {args : Array Value} {below : List Frame} {meth : Method} {c : Code} {n0 s0 : Nat} {post : AH → Prop} (C : Cx G p R s m args meth c 3 cX0_match RX0 n0 s0 3 79) (hr : meth.sig.returnType = none) {K10 : AH → Nat → Int32 → Prop} {K19 : AH → Nat → Int32 → Int32 → Prop} (hK10 : ∀ (h : AH) (al0 : Nat) (xl1 : Int32), K10 h al0 xl1 → AW G p l e R s m args below meth c 3 (QM G (pV post) args s below n0 s0) 10 [(0, .ref (G.1 + al0)), (1, .int xl1)] [] h) (hK19 : ∀ (h : AH) (al0 : Nat) (xl1 : Int32) (xl2 : Int32), K19 h al0 xl1 xl2 → AW G p l e R s m args below meth c 3 (QM G (pV post) args s below n0 s0) 19 [(0, .ref (G.1 + al0)), (1, .int xl1), (2, .int xl2)] [] h) {h : AH} {al0 : Nat} {xl1 : Int32} {xl2 : Int32}  (hw : wb_X0_match_19 K10 K19 h al0 xl1 xl2 post) : AW G p l e R s m args below meth c 3 (QM G (pV post) args s below n0 s0) 19 [(0, .ref (G.1 + al0)), (1, .int xl1), (2, .int xl2)] [] h := by
  unfold wb_X0_match_19 at hw
  refine r_iload_n C dX0_match_19 2 rfl ?_
  refine r_iconst (v := 3) C dX0_match_20 (by decide) ?_
  refine r_icmp_ge C dX0_match_21 36 (by decide) (fun hc => ?_) (fun hc => ?_)
  · replace hw := hw.1 hc
    obtain ⟨iv1, eiv1⟩ : ∃ q : Int32, q = xl1 + 1 := ⟨_, rfl⟩
    replace hw := hw iv1 eiv1
    refine r_iinc C dX0_match_36 1 rfl (by rw [eiv1]; rfl) [(1, .int iv1), (0, .ref (G.1 + al0)), (2, .int xl2)] (by decide) rfl ?_
    refine r_goto C dX0_match_39 10 (by decide) ?_
    refine r_sub [1, 0] rfl ?_
    exact hK10 _ _ _ hw
  · replace hw := hw.2 hc
    refine r_aload_n C dX0_match_24 0 rfl ?_
    refine r_iload_n C dX0_match_25 1 rfl ?_
    refine r_iload_n C dX0_match_26 2 rfl ?_
    have hob := hw.1
    replace hw := hw.2
    refine r_callV C (As := [.int xl1, .int xl2]) (rest := []) (c_X0_matchTwo G h al0 xl1 xl2 _ hw) yl_X0_matchTwo (gm5 (List.mem_of_getElem? (i := 103) rfl) rfl) (gm5 (List.mem_of_getElem? (i := 105) rfl) rfl) (ci := 0) rfl (by decide) (gsel (List.mem_of_getElem? (i := 23) rfl)) hob (by decide) rfl (Nat.le_of_ble_eq_true rfl) dX0_match_27 rfl (kV fun hv2  hw => ?_)
    obtain ⟨iv3, eiv3⟩ : ∃ q : Int32, q = xl2 + 1 := ⟨_, rfl⟩
    replace hw := hw iv3 eiv3
    refine r_iinc C dX0_match_30 2 rfl (by rw [eiv3]; rfl) [(2, .int iv3), (0, .ref (G.1 + al0)), (1, .int xl1)] (by decide) rfl ?_
    refine r_goto C dX0_match_33 19 (by decide) ?_
    refine r_sub [1, 2, 0] rfl ?_
    exact hK19 _ _ _ _ hw
def wl_X0_match_19 (K10 : AH → Nat → Int32 → Prop) (post : AH → Prop) : Nat → AH → Nat → Int32 → Int32 → Prop
  | 0 => fun _ _ _ _ => False
  | n + 1 => fun h al0 xl1 xl2 => wb_X0_match_19 K10 (wl_X0_match_19 K10 post n) h al0 xl1 xl2 post
theorem tl_X0_match_19 {G : GG} {p : Program} {l : Launch} {e : Env} {R : Room} {s : State} {m : MethodId} {args : Array Value} {below : List Frame} {meth : Method} {c : Code} {n0 s0 : Nat} {post : AH → Prop} (C : Cx G p R s m args meth c 3 cX0_match RX0 n0 s0 3 79) (hr : meth.sig.returnType = none) {K10 : AH → Nat → Int32 → Prop} (hK10 : ∀ (h : AH) (al0 : Nat) (xl1 : Int32), K10 h al0 xl1 → AW G p l e R s m args below meth c 3 (QM G (pV post) args s below n0 s0) 10 [(0, .ref (G.1 + al0)), (1, .int xl1)] [] h) : ∀ (n : Nat) (h : AH) (al0 : Nat) (xl1 : Int32) (xl2 : Int32), wl_X0_match_19 K10 post n h al0 xl1 xl2 → AW G p l e R s m args below meth c 3 (QM G (pV post) args s below n0 s0) 19 [(0, .ref (G.1 + al0)), (1, .int xl1), (2, .int xl2)] [] h := by
  intro n
  induction n with
  | zero => intro h al0 xl1 xl2 hw; exact hw.elim
  | succ n ih => intro h al0 xl1 xl2 hw; exact tb_X0_match_19 C hr hK10 ih hw
def wb_X0_match_10 (K10 : AH → Nat → Int32 → Prop) (h : AH) (al0 : Nat) (xl1 : Int32)  (post : AH → Prop) : Prop := (3 ≤ xl1 → (post h)) ∧ (¬ 3 ≤ xl1 → (∀ iv1 : Int32, iv1 = xl1 + (1 : Int32) → (∃ n, wl_X0_match_19 K10 post n h al0 xl1 iv1)))
set_option maxRecDepth 100000 in
theorem tb_X0_match_10 {G : GG} {p : Program} {l : Launch} {e : Env} {R : Room} {s : State} {m : MethodId} {args : Array Value} {below : List Frame} {meth : Method} {c : Code} {n0 s0 : Nat} {post : AH → Prop} (C : Cx G p R s m args meth c 3 cX0_match RX0 n0 s0 3 79) (hr : meth.sig.returnType = none) {K10 : AH → Nat → Int32 → Prop} (hK10 : ∀ (h : AH) (al0 : Nat) (xl1 : Int32), K10 h al0 xl1 → AW G p l e R s m args below meth c 3 (QM G (pV post) args s below n0 s0) 10 [(0, .ref (G.1 + al0)), (1, .int xl1)] [] h) {h : AH} {al0 : Nat} {xl1 : Int32}  (hw : wb_X0_match_10 K10 h al0 xl1 post) : AW G p l e R s m args below meth c 3 (QM G (pV post) args s below n0 s0) 10 [(0, .ref (G.1 + al0)), (1, .int xl1)] [] h := by
  unfold wb_X0_match_10 at hw
  refine r_iload_n C dX0_match_10 1 rfl ?_
  refine r_iconst (v := 3) C dX0_match_11 (by decide) ?_
  refine r_icmp_ge C dX0_match_12 42 (by decide) (fun hc => ?_) (fun hc => ?_)
  · replace hw := hw.1 hc
    exact r_vret C hr dX0_match_42 hw
  · replace hw := hw.2 hc
    refine r_iload_n C dX0_match_15 1 rfl ?_
    refine r_iconst (v := 1) C dX0_match_16 (by decide) ?_
    refine r_iadd C dX0_match_17 ?_
    refine r_topi fun iv1 eiv1 => ?_
    replace hw := hw iv1 eiv1
    refine r_istore_n C dX0_match_18 [(2, .int iv1), (0, .ref (G.1 + al0)), (1, .int xl1)] (by decide) rfl ?_
    refine r_sub [1, 2, 0] rfl ?_
    obtain ⟨n, hw⟩ := hw
    exact tl_X0_match_19 C hr hK10 n _ _ _ _ hw
def wl_X0_match_10  (post : AH → Prop) : Nat → AH → Nat → Int32 → Prop
  | 0 => fun _ _ _ => False
  | n + 1 => fun h al0 xl1 => wb_X0_match_10  (wl_X0_match_10  post n) h al0 xl1 post
theorem tl_X0_match_10 {G : GG} {p : Program} {l : Launch} {e : Env} {R : Room} {s : State} {m : MethodId} {args : Array Value} {below : List Frame} {meth : Method} {c : Code} {n0 s0 : Nat} {post : AH → Prop} (C : Cx G p R s m args meth c 3 cX0_match RX0 n0 s0 3 79) (hr : meth.sig.returnType = none)   : ∀ (n : Nat) (h : AH) (al0 : Nat) (xl1 : Int32), wl_X0_match_10  post n h al0 xl1 → AW G p l e R s m args below meth c 3 (QM G (pV post) args s below n0 s0) 10 [(0, .ref (G.1 + al0)), (1, .int xl1)] [] h := by
  intro n
  induction n with
  | zero => intro h al0 xl1 hw; exact hw.elim
  | succ n ih => intro h al0 xl1 hw; exact tb_X0_match_10 C hr  ih hw
def wp_X0_match (h : AH) (a0 : Nat) (post : AH → Prop) : Prop := (ob h a0 0) ∧ (∃ rv1, aP h a0 6 = some rv1 ∧ (wp_J7_fill_d0a16 h rv1 0 (fun hv2  => ∃ n, wl_X0_match_10  post n hv2 a0 0)))
set_option maxRecDepth 100000 in
theorem c_X0_match (G : GG) (h : AH) (a0 : Nat) (post : AH → Prop) (hw : wp_X0_match h a0 post) : MC G yX0_match cX0_match 3 none 3 79 h [.ref (G.1 + a0)] (pV post) := by
  refine MC.of (lv := [(0, .ref (G.1 + a0))]) (by decide) (Nat.le_of_ble_eq_true rfl) rfl fun p l e R s m args below meth c C hr hnm => ?_
  unfold wp_X0_match at hw
  refine r_aload_n C dX0_match_0 0 rfl ?_
  have hob := hw.1
  obtain ⟨rv1, hp, hw⟩ := hw.2
  refine r_getP C fl_RX0_28_0 hob hp (fun _ _ _ => rfl) dX0_match_1 ?_
  refine r_lconst (v := 0) C dX0_match_4 (by decide) ?_
  refine r_callS C (As := [.ref (G.1 + rv1), .long 0]) (rest := []) (c_J7_fill_d0a16 G h rv1 0 _ hw) yl_J7_fill_d0a16 (gm5 (List.mem_of_getElem? (i := 102) rfl) rfl) (gm3 (List.mem_of_getElem? (i := 129) rfl) rfl) (by decide) rfl (Nat.le_of_ble_eq_true rfl) dX0_match_5 rfl (kV fun hv2  hw => ?_)
  refine r_iconst (v := 0) C dX0_match_8 (by decide) ?_
  refine r_istore_n C dX0_match_9 [(1, .int 0), (0, .ref (G.1 + a0))] (by decide) rfl ?_
  refine r_sub [1, 0] rfl ?_
  obtain ⟨n, hw⟩ := hw
  exact tl_X0_match_10 C hr  n _ _ _ hw
theorem dX0_list_0 : decode cX0_list 0 = .ok (.aload_n 0, 1) := by decide +kernel
theorem dX0_list_1 : decode cX0_list 1 = .ok (.aload_n 1, 1) := by decide +kernel
theorem dX0_list_2 : decode cX0_list 2 = .ok (.putfield 37, 3) := by decide +kernel
theorem dX0_list_5 : decode cX0_list 5 = .ok (.iconst 0, 1) := by decide +kernel
theorem dX0_list_6 : decode cX0_list 6 = .ok (.istore_n 2, 1) := by decide +kernel
theorem dX0_list_7 : decode cX0_list 7 = .ok (.iload_n 2, 1) := by decide +kernel
theorem dX0_list_8 : decode cX0_list 8 = .ok (.iconst 3, 1) := by decide +kernel
theorem dX0_list_9 : decode cX0_list 9 = .ok (.if_icmp .ge 49, 3) := by decide +kernel
theorem dX0_list_12 : decode cX0_list 12 = .ok (.aload_n 0, 1) := by decide +kernel
theorem dX0_list_13 : decode cX0_list 13 = .ok (.getfield 11, 3) := by decide +kernel
theorem dX0_list_16 : decode cX0_list 16 = .ok (.iload_n 2, 1) := by decide +kernel
theorem dX0_list_17 : decode cX0_list 17 = .ok (.iconst 0, 1) := by decide +kernel
theorem dX0_list_18 : decode cX0_list 18 = .ok (.iastore, 1) := by decide +kernel
theorem dX0_list_19 : decode cX0_list 19 = .ok (.iload_n 2, 1) := by decide +kernel
theorem dX0_list_20 : decode cX0_list 20 = .ok (.aload_n 1, 1) := by decide +kernel
theorem dX0_list_21 : decode cX0_list 21 = .ok (.getfield 41, 3) := by decide +kernel
theorem dX0_list_24 : decode cX0_list 24 = .ok (.if_icmp .ge 11, 3) := by decide +kernel
theorem dX0_list_27 : decode cX0_list 27 = .ok (.aload_n 0, 1) := by decide +kernel
theorem dX0_list_28 : decode cX0_list 28 = .ok (.iload_n 2, 1) := by decide +kernel
theorem dX0_list_29 : decode cX0_list 29 = .ok (.invokevirtual 47, 3) := by decide +kernel
theorem dX0_list_32 : decode cX0_list 32 = .ok (.goto 20, 3) := by decide +kernel
theorem dX0_list_35 : decode cX0_list 35 = .ok (.aload_n 0, 1) := by decide +kernel
theorem dX0_list_36 : decode cX0_list 36 = .ok (.getfield 11, 3) := by decide +kernel
theorem dX0_list_39 : decode cX0_list 39 = .ok (.iload_n 2, 1) := by decide +kernel
theorem dX0_list_40 : decode cX0_list 40 = .ok (.iconst 1, 1) := by decide +kernel
theorem dX0_list_41 : decode cX0_list 41 = .ok (.iastore, 1) := by decide +kernel
theorem dX0_list_42 : decode cX0_list 42 = .ok (.aload_n 0, 1) := by decide +kernel
theorem dX0_list_43 : decode cX0_list 43 = .ok (.getfield 18, 3) := by decide +kernel
theorem dX0_list_46 : decode cX0_list 46 = .ok (.iload_n 2, 1) := by decide +kernel
theorem dX0_list_47 : decode cX0_list 47 = .ok (.bipush 40, 2) := by decide +kernel
theorem dX0_list_49 : decode cX0_list 49 = .ok (.imul, 1) := by decide +kernel
theorem dX0_list_50 : decode cX0_list 50 = .ok (.lconst 0, 1) := by decide +kernel
theorem dX0_list_51 : decode cX0_list 51 = .ok (.lastore, 1) := by decide +kernel
theorem dX0_list_52 : decode cX0_list 52 = .ok (.iinc 2 1, 3) := by decide +kernel
theorem dX0_list_55 : decode cX0_list 55 = .ok (.goto (-48), 3) := by decide +kernel
theorem dX0_list_58 : decode cX0_list 58 = .ok (.aload_n 0, 1) := by decide +kernel
theorem dX0_list_59 : decode cX0_list 59 = .ok (.invokevirtual 51, 3) := by decide +kernel
theorem dX0_list_62 : decode cX0_list 62 = .ok (.return_, 1) := by decide +kernel
def wb_X0_list_52 (K7 : AH → Nat → Nat → Int32 → Prop) (h : AH) (al0 : Nat) (al1 : Nat) (xl2 : Int32)  (post : AH → Prop) : Prop := ∀ iv1 : Int32, iv1 = xl2 + 1 → (K7 h al0 al1 iv1)
set_option maxRecDepth 100000 in
theorem tb_X0_list_52 {G : GG} {p : Program} {l : Launch} {e : Env} {R : Room} {s : State} {m : MethodId} {args : Array Value} {below : List Frame} {meth : Method} {c : Code} {n0 s0 : Nat} {post : AH → Prop} (C : Cx G p R s m args meth c 3 cX0_list RX0 n0 s0 4 101) (hr : meth.sig.returnType = none) {K7 : AH → Nat → Nat → Int32 → Prop} (hK7 : ∀ (h : AH) (al0 : Nat) (al1 : Nat) (xl2 : Int32), K7 h al0 al1 xl2 → AW G p l e R s m args below meth c 3 (QM G (pV post) args s below n0 s0) 7 [(0, .ref (G.1 + al0)), (1, .ref (G.1 + al1)), (2, .int xl2)] [] h) {h : AH} {al0 : Nat} {al1 : Nat} {xl2 : Int32}  (hw : wb_X0_list_52 K7 h al0 al1 xl2 post) : AW G p l e R s m args below meth c 3 (QM G (pV post) args s below n0 s0) 52 [(0, .ref (G.1 + al0)), (1, .ref (G.1 + al1)), (2, .int xl2)] [] h := by
  unfold wb_X0_list_52 at hw
  obtain ⟨iv1, eiv1⟩ : ∃ q : Int32, q = xl2 + 1 := ⟨_, rfl⟩
  replace hw := hw iv1 eiv1
  refine r_iinc C dX0_list_52 2 rfl (by rw [eiv1]; rfl) [(2, .int iv1), (0, .ref (G.1 + al0)), (1, .ref (G.1 + al1))] (by decide) rfl ?_
  refine r_goto C dX0_list_55 7 (by decide) ?_
  refine r_sub [1, 2, 0] rfl ?_
  exact hK7 _ _ _ _ hw
def wb_X0_list_7 (K7 : AH → Nat → Nat → Int32 → Prop) (h : AH) (al0 : Nat) (al1 : Nat) (xl2 : Int32)  (post : AH → Prop) : Prop := (3 ≤ xl2 → ((ob h al0 0) ∧ wp_X0_match h al0  (fun hv1  => post hv1))) ∧ (¬ 3 ≤ xl2 → ((ob h al0 0) ∧ (∃ rv2, aP h al0 1 = some rv2 ∧ ((ob h rv2 13) ∧ ((vp_in xl2 (aL h rv2)) ∧ (∀ hv3 : AH, hv3 = hI h rv2 xl2.toNatClampNeg 0 → ((ob hv3 al1 1) ∧ (((aI hv3 al1 5) ≤ xl2 → ((ob hv3 al0 0) ∧ (∃ rv4, aP hv3 al0 1 = some rv4 ∧ ((ob hv3 rv4 13) ∧ ((vp_in xl2 (aL hv3 rv4)) ∧ (∀ hv5 : AH, hv5 = hI hv3 rv4 xl2.toNatClampNeg 1 → ((ob hv5 al0 0) ∧ (∃ rv6, aP hv5 al0 3 = some rv6 ∧ ((ob hv5 rv6 14) ∧ ((vp_in (xl2 * (40 : Int32)) (aL hv5 rv6)) ∧ (∀ hv7 : AH, hv7 = hJ hv5 rv6 (xl2 * (40 : Int32)).toNatClampNeg 0 → (wb_X0_list_52 K7 hv7 al0 al1 xl2 post)))))))))))) ∧ (¬ (aI hv3 al1 5) ≤ xl2 → ((ob hv3 al0 0) ∧ wp_X0_listOf hv3 al0 xl2 (fun hv8  => wb_X0_list_52 K7 hv8 al0 al1 xl2 post)))))))))))
set_option maxRecDepth 100000 in
theorem tb_X0_list_7 {G : GG} {p : Program} {l : Launch} {e : Env} {R : Room} {s : State} {m : MethodId} {args : Array Value} {below : List Frame} {meth : Method} {c : Code} {n0 s0 : Nat} {post : AH → Prop} (C : Cx G p R s m args meth c 3 cX0_list RX0 n0 s0 4 101) (hr : meth.sig.returnType = none) {K7 : AH → Nat → Nat → Int32 → Prop} (hK7 : ∀ (h : AH) (al0 : Nat) (al1 : Nat) (xl2 : Int32), K7 h al0 al1 xl2 → AW G p l e R s m args below meth c 3 (QM G (pV post) args s below n0 s0) 7 [(0, .ref (G.1 + al0)), (1, .ref (G.1 + al1)), (2, .int xl2)] [] h) {h : AH} {al0 : Nat} {al1 : Nat} {xl2 : Int32}  (hw : wb_X0_list_7 K7 h al0 al1 xl2 post) : AW G p l e R s m args below meth c 3 (QM G (pV post) args s below n0 s0) 7 [(0, .ref (G.1 + al0)), (1, .ref (G.1 + al1)), (2, .int xl2)] [] h := by
  unfold wb_X0_list_7 at hw
  refine r_iload_n C dX0_list_7 2 rfl ?_
  refine r_iconst (v := 3) C dX0_list_8 (by decide) ?_
  refine r_icmp_ge C dX0_list_9 58 (by decide) (fun hc => ?_) (fun hc => ?_)
  · replace hw := hw.1 hc
    refine r_aload_n C dX0_list_58 0 rfl ?_
    have hob := hw.1
    replace hw := hw.2
    refine r_callV C (As := []) (rest := []) (c_X0_match G h al0  _ hw) yl_X0_match (gm5 (List.mem_of_getElem? (i := 98) rfl) rfl) (gm5 (List.mem_of_getElem? (i := 100) rfl) rfl) (ci := 0) rfl (by decide) (gsel (List.mem_of_getElem? (i := 22) rfl)) hob (by decide) rfl (Nat.le_of_ble_eq_true rfl) dX0_list_59 rfl (kV fun hv1  hw => ?_)
    exact r_vret C hr dX0_list_62 hw
  · replace hw := hw.2 hc
    refine r_aload_n C dX0_list_12 0 rfl ?_
    have hob := hw.1
    obtain ⟨rv2, hp, hw⟩ := hw.2
    refine r_getP C fl_RX0_11_0 hob hp (fun _ _ _ => rfl) dX0_list_13 ?_
    refine r_iload_n C dX0_list_16 2 rfl ?_
    refine r_iconst (v := 0) C dX0_list_17 (by decide) ?_
    refine r_iastore C hw.1 hw.2.1 dX0_list_18 ?_
    replace hw := hw.2.2
    refine r_toph fun hv3 ehv3 => ?_
    replace hw := hw hv3 ehv3
    refine r_iload_n C dX0_list_19 2 rfl ?_
    refine r_aload_n C dX0_list_20 1 rfl ?_
    refine r_getI C fl_RX0_41_1 hw.1 (fun _ _ _ => rfl) dX0_list_21 ?_
    replace hw := hw.2
    refine r_icmp_ge C dX0_list_24 35 (by decide) (fun hc => ?_) (fun hc => ?_)
    · replace hw := hw.1 hc
      refine r_aload_n C dX0_list_35 0 rfl ?_
      have hob := hw.1
      obtain ⟨rv4, hp, hw⟩ := hw.2
      refine r_getP C fl_RX0_11_0 hob hp (fun _ _ _ => rfl) dX0_list_36 ?_
      refine r_iload_n C dX0_list_39 2 rfl ?_
      refine r_iconst (v := 1) C dX0_list_40 (by decide) ?_
      refine r_iastore C hw.1 hw.2.1 dX0_list_41 ?_
      replace hw := hw.2.2
      refine r_toph fun hv5 ehv5 => ?_
      replace hw := hw hv5 ehv5
      refine r_aload_n C dX0_list_42 0 rfl ?_
      have hob := hw.1
      obtain ⟨rv6, hp, hw⟩ := hw.2
      refine r_getP C fl_RX0_18_0 hob hp (fun _ _ _ => rfl) dX0_list_43 ?_
      refine r_iload_n C dX0_list_46 2 rfl ?_
      refine r_bipush (v := 40) C dX0_list_47 (by decide) ?_
      refine r_imul C dX0_list_49 ?_
      refine r_lconst (v := 0) C dX0_list_50 (by decide) ?_
      refine r_lastore C hw.1 hw.2.1 dX0_list_51 ?_
      replace hw := hw.2.2
      refine r_toph fun hv7 ehv7 => ?_
      replace hw := hw hv7 ehv7
      refine r_sub [0, 1, 2] rfl ?_
      exact tb_X0_list_52 C hr hK7 hw
    · replace hw := hw.2 hc
      refine r_aload_n C dX0_list_27 0 rfl ?_
      refine r_iload_n C dX0_list_28 2 rfl ?_
      have hob := hw.1
      replace hw := hw.2
      refine r_callV C (As := [.int xl2]) (rest := []) (c_X0_listOf G hv3 al0 xl2 _ hw) yl_X0_listOf (gm5 (List.mem_of_getElem? (i := 92) rfl) rfl) (gm5 (List.mem_of_getElem? (i := 94) rfl) rfl) (ci := 0) rfl (by decide) (gsel (List.mem_of_getElem? (i := 21) rfl)) hob (by decide) rfl (Nat.le_of_ble_eq_true rfl) dX0_list_29 rfl (kV fun hv8  hw => ?_)
      refine r_goto C dX0_list_32 52 (by decide) ?_
      refine r_sub [0, 1, 2] rfl ?_
      exact tb_X0_list_52 C hr hK7 hw
def wl_X0_list_7  (post : AH → Prop) : Nat → AH → Nat → Nat → Int32 → Prop
  | 0 => fun _ _ _ _ => False
  | n + 1 => fun h al0 al1 xl2 => wb_X0_list_7  (wl_X0_list_7  post n) h al0 al1 xl2 post
theorem tl_X0_list_7 {G : GG} {p : Program} {l : Launch} {e : Env} {R : Room} {s : State} {m : MethodId} {args : Array Value} {below : List Frame} {meth : Method} {c : Code} {n0 s0 : Nat} {post : AH → Prop} (C : Cx G p R s m args meth c 3 cX0_list RX0 n0 s0 4 101) (hr : meth.sig.returnType = none)   : ∀ (n : Nat) (h : AH) (al0 : Nat) (al1 : Nat) (xl2 : Int32), wl_X0_list_7  post n h al0 al1 xl2 → AW G p l e R s m args below meth c 3 (QM G (pV post) args s below n0 s0) 7 [(0, .ref (G.1 + al0)), (1, .ref (G.1 + al1)), (2, .int xl2)] [] h := by
  intro n
  induction n with
  | zero => intro h al0 al1 xl2 hw; exact hw.elim
  | succ n ih => intro h al0 al1 xl2 hw; exact tb_X0_list_7 C hr  ih hw
def wp_X0_list (h : AH) (a0 : Nat) (a1 : Nat) (post : AH → Prop) : Prop := (ob h a0 0) ∧ (∀ hv1 : AH, hv1 = hP h a0 0 a1 → (∃ n, wl_X0_list_7  post n hv1 a0 a1 0))
set_option maxRecDepth 100000 in
theorem c_X0_list (G : GG) (h : AH) (a0 : Nat) (a1 : Nat) (post : AH → Prop) (hw : wp_X0_list h a0 a1 post) : MC G yX0_list cX0_list 3 none 4 101 h [.ref (G.1 + a0), .ref (G.1 + a1)] (pV post) := by
  refine MC.of (lv := [(0, .ref (G.1 + a0)), (1, .ref (G.1 + a1))]) (by decide) (Nat.le_of_ble_eq_true rfl) rfl fun p l e R s m args below meth c C hr hnm => ?_
  unfold wp_X0_list at hw
  refine r_aload_n C dX0_list_0 0 rfl ?_
  refine r_aload_n C dX0_list_1 1 rfl ?_
  refine r_putP C fp_RX0_37_0 hw.1 (fun _ _ _ => rfl) dX0_list_2 ?_
  replace hw := hw.2
  refine r_toph fun hv1 ehv1 => ?_
  replace hw := hw hv1 ehv1
  refine r_iconst (v := 0) C dX0_list_5 (by decide) ?_
  refine r_istore_n C dX0_list_6 [(2, .int 0), (0, .ref (G.1 + a0)), (1, .ref (G.1 + a1))] (by decide) rfl ?_
  refine r_sub [1, 2, 0] rfl ?_
  obtain ⟨n, hw⟩ := hw
  exact tl_X0_list_7 C hr  n _ _ _ _ hw
theorem dX10_bitsWithin_0 : decode cX10_bitsWithin 0 = .ok (.iconst 0, 1) := by decide +kernel
theorem dX10_bitsWithin_1 : decode cX10_bitsWithin 1 = .ok (.istore_n 3, 1) := by decide +kernel
theorem dX10_bitsWithin_2 : decode cX10_bitsWithin 2 = .ok (.iconst 0, 1) := by decide +kernel
theorem dX10_bitsWithin_3 : decode cX10_bitsWithin 3 = .ok (.istore 4, 2) := by decide +kernel
theorem dX10_bitsWithin_5 : decode cX10_bitsWithin 5 = .ok (.iload 4, 2) := by decide +kernel
theorem dX10_bitsWithin_7 : decode cX10_bitsWithin 7 = .ok (.aload_n 0, 1) := by decide +kernel
theorem dX10_bitsWithin_8 : decode cX10_bitsWithin 8 = .ok (.getfield 24, 3) := by decide +kernel
theorem dX10_bitsWithin_11 : decode cX10_bitsWithin 11 = .ok (.if_icmp .ge 94, 3) := by decide +kernel
theorem dX10_bitsWithin_14 : decode cX10_bitsWithin 14 = .ok (.aload_n 0, 1) := by decide +kernel
theorem dX10_bitsWithin_15 : decode cX10_bitsWithin 15 = .ok (.getfield 9, 3) := by decide +kernel
theorem dX10_bitsWithin_18 : decode cX10_bitsWithin 18 = .ok (.iload 4, 2) := by decide +kernel
theorem dX10_bitsWithin_20 : decode cX10_bitsWithin 20 = .ok (.iaload, 1) := by decide +kernel
theorem dX10_bitsWithin_21 : decode cX10_bitsWithin 21 = .ok (.iconst 2, 1) := by decide +kernel
theorem dX10_bitsWithin_22 : decode cX10_bitsWithin 22 = .ok (.if_icmp .eq 36, 3) := by decide +kernel
theorem dX10_bitsWithin_25 : decode cX10_bitsWithin 25 = .ok (.aload_n 0, 1) := by decide +kernel
theorem dX10_bitsWithin_26 : decode cX10_bitsWithin 26 = .ok (.getfield 9, 3) := by decide +kernel
theorem dX10_bitsWithin_29 : decode cX10_bitsWithin 29 = .ok (.iload 4, 2) := by decide +kernel
theorem dX10_bitsWithin_31 : decode cX10_bitsWithin 31 = .ok (.iaload, 1) := by decide +kernel
theorem dX10_bitsWithin_32 : decode cX10_bitsWithin 32 = .ok (.iconst 3, 1) := by decide +kernel
theorem dX10_bitsWithin_33 : decode cX10_bitsWithin 33 = .ok (.if_icmp .eq 25, 3) := by decide +kernel
theorem dX10_bitsWithin_36 : decode cX10_bitsWithin 36 = .ok (.aload_n 0, 1) := by decide +kernel
theorem dX10_bitsWithin_37 : decode cX10_bitsWithin 37 = .ok (.getfield 18, 3) := by decide +kernel
theorem dX10_bitsWithin_40 : decode cX10_bitsWithin 40 = .ok (.iload 4, 2) := by decide +kernel
theorem dX10_bitsWithin_42 : decode cX10_bitsWithin 42 = .ok (.iaload, 1) := by decide +kernel
theorem dX10_bitsWithin_43 : decode cX10_bitsWithin 43 = .ok (.iload_n 1, 1) := by decide +kernel
theorem dX10_bitsWithin_44 : decode cX10_bitsWithin 44 = .ok (.if_icmp .eq 14, 3) := by decide +kernel
theorem dX10_bitsWithin_47 : decode cX10_bitsWithin 47 = .ok (.aload_n 0, 1) := by decide +kernel
theorem dX10_bitsWithin_48 : decode cX10_bitsWithin 48 = .ok (.getfield 18, 3) := by decide +kernel
theorem dX10_bitsWithin_51 : decode cX10_bitsWithin 51 = .ok (.iload 4, 2) := by decide +kernel
theorem dX10_bitsWithin_53 : decode cX10_bitsWithin 53 = .ok (.iaload, 1) := by decide +kernel
theorem dX10_bitsWithin_54 : decode cX10_bitsWithin 54 = .ok (.iload_n 2, 1) := by decide +kernel
theorem dX10_bitsWithin_55 : decode cX10_bitsWithin 55 = .ok (.if_icmp .ne 7, 3) := by decide +kernel
theorem dX10_bitsWithin_58 : decode cX10_bitsWithin 58 = .ok (.iconst 1, 1) := by decide +kernel
theorem dX10_bitsWithin_59 : decode cX10_bitsWithin 59 = .ok (.goto 4, 3) := by decide +kernel
theorem dX10_bitsWithin_62 : decode cX10_bitsWithin 62 = .ok (.iconst 0, 1) := by decide +kernel
theorem dX10_bitsWithin_63 : decode cX10_bitsWithin 63 = .ok (.istore 5, 2) := by decide +kernel
theorem dX10_bitsWithin_65 : decode cX10_bitsWithin 65 = .ok (.iload 5, 2) := by decide +kernel
theorem dX10_bitsWithin_67 : decode cX10_bitsWithin 67 = .ok (.ifCond .eq 32, 3) := by decide +kernel
theorem dX10_bitsWithin_70 : decode cX10_bitsWithin 70 = .ok (.aload_n 0, 1) := by decide +kernel
theorem dX10_bitsWithin_71 : decode cX10_bitsWithin 71 = .ok (.getfield 15, 3) := by decide +kernel
theorem dX10_bitsWithin_74 : decode cX10_bitsWithin 74 = .ok (.iload 4, 2) := by decide +kernel
theorem dX10_bitsWithin_76 : decode cX10_bitsWithin 76 = .ok (.iaload, 1) := by decide +kernel
theorem dX10_bitsWithin_77 : decode cX10_bitsWithin 77 = .ok (.iload_n 1, 1) := by decide +kernel
theorem dX10_bitsWithin_78 : decode cX10_bitsWithin 78 = .ok (.if_icmp .eq 14, 3) := by decide +kernel
theorem dX10_bitsWithin_81 : decode cX10_bitsWithin 81 = .ok (.aload_n 0, 1) := by decide +kernel
theorem dX10_bitsWithin_82 : decode cX10_bitsWithin 82 = .ok (.getfield 15, 3) := by decide +kernel
theorem dX10_bitsWithin_85 : decode cX10_bitsWithin 85 = .ok (.iload 4, 2) := by decide +kernel
theorem dX10_bitsWithin_87 : decode cX10_bitsWithin 87 = .ok (.iaload, 1) := by decide +kernel
theorem dX10_bitsWithin_88 : decode cX10_bitsWithin 88 = .ok (.iload_n 2, 1) := by decide +kernel
theorem dX10_bitsWithin_89 : decode cX10_bitsWithin 89 = .ok (.if_icmp .ne 10, 3) := by decide +kernel
theorem dX10_bitsWithin_92 : decode cX10_bitsWithin 92 = .ok (.iload_n 3, 1) := by decide +kernel
theorem dX10_bitsWithin_93 : decode cX10_bitsWithin 93 = .ok (.iconst 1, 1) := by decide +kernel
theorem dX10_bitsWithin_94 : decode cX10_bitsWithin 94 = .ok (.iload 4, 2) := by decide +kernel
theorem dX10_bitsWithin_96 : decode cX10_bitsWithin 96 = .ok (.ishl, 1) := by decide +kernel
theorem dX10_bitsWithin_97 : decode cX10_bitsWithin 97 = .ok (.ior, 1) := by decide +kernel
theorem dX10_bitsWithin_98 : decode cX10_bitsWithin 98 = .ok (.istore_n 3, 1) := by decide +kernel
theorem dX10_bitsWithin_99 : decode cX10_bitsWithin 99 = .ok (.iinc 4 1, 3) := by decide +kernel
theorem dX10_bitsWithin_102 : decode cX10_bitsWithin 102 = .ok (.goto (-97), 3) := by decide +kernel
theorem dX10_bitsWithin_105 : decode cX10_bitsWithin 105 = .ok (.iload_n 3, 1) := by decide +kernel
theorem dX10_bitsWithin_106 : decode cX10_bitsWithin 106 = .ok (.ireturn, 1) := by decide +kernel
def wb_X10_bitsWithin_99 (K5 : AH → Nat → Int32 → Int32 → Int32 → Int32 → Prop) (h : AH) (al0 : Nat) (xl1 : Int32) (xl2 : Int32) (xl3 : Int32) (xl4 : Int32)  (post : AH → Int32 → Prop) : Prop := ∀ iv1 : Int32, iv1 = xl4 + 1 → (K5 h al0 xl1 xl2 xl3 iv1)
set_option maxRecDepth 100000 in
theorem tb_X10_bitsWithin_99 {G : GG} {p : Program} {l : Launch} {e : Env} {R : Room} {s : State} {m : MethodId} {args : Array Value} {below : List Frame} {meth : Method} {c : Code} {n0 s0 : Nat} {post : AH → Int32 → Prop} (C : Cx G p R s m args meth c 6 cX10_bitsWithin RX10 n0 s0 0 0) (hr : meth.sig.returnType = (some .int)) {K5 : AH → Nat → Int32 → Int32 → Int32 → Int32 → Prop} (hK5 : ∀ (h : AH) (al0 : Nat) (xl1 : Int32) (xl2 : Int32) (xl3 : Int32) (xl4 : Int32), K5 h al0 xl1 xl2 xl3 xl4 → AW G p l e R s m args below meth c 6 (QM G (pI post) args s below n0 s0) 5 [(0, .ref (G.1 + al0)), (1, .int xl1), (2, .int xl2), (3, .int xl3), (4, .int xl4)] [] h) {h : AH} {al0 : Nat} {xl1 : Int32} {xl2 : Int32} {xl3 : Int32} {xl4 : Int32}  (hw : wb_X10_bitsWithin_99 K5 h al0 xl1 xl2 xl3 xl4 post) : AW G p l e R s m args below meth c 6 (QM G (pI post) args s below n0 s0) 99 [(0, .ref (G.1 + al0)), (1, .int xl1), (2, .int xl2), (3, .int xl3), (4, .int xl4)] [] h := by
  unfold wb_X10_bitsWithin_99 at hw
  obtain ⟨iv1, eiv1⟩ : ∃ q : Int32, q = xl4 + 1 := ⟨_, rfl⟩
  replace hw := hw iv1 eiv1
  refine r_iinc C dX10_bitsWithin_99 4 rfl (by rw [eiv1]; rfl) [(4, .int iv1), (0, .ref (G.1 + al0)), (1, .int xl1), (2, .int xl2), (3, .int xl3)] (by decide) rfl ?_
  refine r_goto C dX10_bitsWithin_102 5 (by decide) ?_
  refine r_sub [1, 2, 3, 4, 0] rfl ?_
  exact hK5 _ _ _ _ _ _ hw
def wb_X10_bitsWithin_92 (K5 : AH → Nat → Int32 → Int32 → Int32 → Int32 → Prop) (h : AH) (al0 : Nat) (xl1 : Int32) (xl2 : Int32) (xl3 : Int32) (xl4 : Int32)  (post : AH → Int32 → Prop) : Prop := ∀ iv1 : Int32, iv1 = xl3 ||| ((1 : Int32) <<< (xl4 &&& 31)) → (wb_X10_bitsWithin_99 K5 h al0 xl1 xl2 iv1 xl4 post)
set_option maxRecDepth 100000 in
theorem tb_X10_bitsWithin_92 {G : GG} {p : Program} {l : Launch} {e : Env} {R : Room} {s : State} {m : MethodId} {args : Array Value} {below : List Frame} {meth : Method} {c : Code} {n0 s0 : Nat} {post : AH → Int32 → Prop} (C : Cx G p R s m args meth c 6 cX10_bitsWithin RX10 n0 s0 0 0) (hr : meth.sig.returnType = (some .int)) {K5 : AH → Nat → Int32 → Int32 → Int32 → Int32 → Prop} (hK5 : ∀ (h : AH) (al0 : Nat) (xl1 : Int32) (xl2 : Int32) (xl3 : Int32) (xl4 : Int32), K5 h al0 xl1 xl2 xl3 xl4 → AW G p l e R s m args below meth c 6 (QM G (pI post) args s below n0 s0) 5 [(0, .ref (G.1 + al0)), (1, .int xl1), (2, .int xl2), (3, .int xl3), (4, .int xl4)] [] h) {h : AH} {al0 : Nat} {xl1 : Int32} {xl2 : Int32} {xl3 : Int32} {xl4 : Int32}  (hw : wb_X10_bitsWithin_92 K5 h al0 xl1 xl2 xl3 xl4 post) : AW G p l e R s m args below meth c 6 (QM G (pI post) args s below n0 s0) 92 [(0, .ref (G.1 + al0)), (1, .int xl1), (2, .int xl2), (3, .int xl3), (4, .int xl4)] [] h := by
  unfold wb_X10_bitsWithin_92 at hw
  refine r_iload_n C dX10_bitsWithin_92 3 rfl ?_
  refine r_iconst (v := 1) C dX10_bitsWithin_93 (by decide) ?_
  refine r_iload C dX10_bitsWithin_94 4 rfl ?_
  refine r_ishl C dX10_bitsWithin_96 ?_
  refine r_ior C dX10_bitsWithin_97 ?_
  refine r_topi fun iv1 eiv1 => ?_
  replace hw := hw iv1 eiv1
  refine r_istore_n C dX10_bitsWithin_98 [(3, .int iv1), (0, .ref (G.1 + al0)), (1, .int xl1), (2, .int xl2), (4, .int xl4)] (by decide) rfl ?_
  refine r_sub [1, 2, 3, 0, 4] rfl ?_
  exact tb_X10_bitsWithin_99 C hr hK5 hw
def wb_X10_bitsWithin_63 (K5 : AH → Nat → Int32 → Int32 → Int32 → Int32 → Prop) (h : AH) (al0 : Nat) (xl1 : Int32) (xl2 : Int32) (xl3 : Int32) (xl4 : Int32) (xs0 : Int32) (post : AH → Int32 → Prop) : Prop := (xs0 = 0 → (wb_X10_bitsWithin_99 K5 h al0 xl1 xl2 xl3 xl4 post)) ∧ (¬ xs0 = 0 → ((ob h al0 9) ∧ (∃ rv1, aP h al0 2 = some rv1 ∧ ((ob h rv1 13) ∧ ((vp_in xl4 (aL h rv1)) ∧ (((aI h rv1 xl4.toNatClampNeg) = xl1 → (wb_X10_bitsWithin_92 K5 h al0 xl1 xl2 xl3 xl4 post)) ∧ (¬ (aI h rv1 xl4.toNatClampNeg) = xl1 → ((ob h al0 9) ∧ (∃ rv2, aP h al0 2 = some rv2 ∧ ((ob h rv2 13) ∧ ((vp_in xl4 (aL h rv2)) ∧ ((¬ (aI h rv2 xl4.toNatClampNeg) = xl2 → (wb_X10_bitsWithin_99 K5 h al0 xl1 xl2 xl3 xl4 post)) ∧ ((aI h rv2 xl4.toNatClampNeg) = xl2 → (wb_X10_bitsWithin_92 K5 h al0 xl1 xl2 xl3 xl4 post))))))))))))))
set_option maxRecDepth 100000 in
theorem tb_X10_bitsWithin_63 {G : GG} {p : Program} {l : Launch} {e : Env} {R : Room} {s : State} {m : MethodId} {args : Array Value} {below : List Frame} {meth : Method} {c : Code} {n0 s0 : Nat} {post : AH → Int32 → Prop} (C : Cx G p R s m args meth c 6 cX10_bitsWithin RX10 n0 s0 0 0) (hr : meth.sig.returnType = (some .int)) {K5 : AH → Nat → Int32 → Int32 → Int32 → Int32 → Prop} (hK5 : ∀ (h : AH) (al0 : Nat) (xl1 : Int32) (xl2 : Int32) (xl3 : Int32) (xl4 : Int32), K5 h al0 xl1 xl2 xl3 xl4 → AW G p l e R s m args below meth c 6 (QM G (pI post) args s below n0 s0) 5 [(0, .ref (G.1 + al0)), (1, .int xl1), (2, .int xl2), (3, .int xl3), (4, .int xl4)] [] h) {h : AH} {al0 : Nat} {xl1 : Int32} {xl2 : Int32} {xl3 : Int32} {xl4 : Int32} {xs0 : Int32} (hw : wb_X10_bitsWithin_63 K5 h al0 xl1 xl2 xl3 xl4 xs0 post) : AW G p l e R s m args below meth c 6 (QM G (pI post) args s below n0 s0) 63 [(0, .ref (G.1 + al0)), (1, .int xl1), (2, .int xl2), (3, .int xl3), (4, .int xl4)] [.int xs0] h := by
  unfold wb_X10_bitsWithin_63 at hw
  refine r_istore C dX10_bitsWithin_63 [(5, .int xs0), (0, .ref (G.1 + al0)), (1, .int xl1), (2, .int xl2), (3, .int xl3), (4, .int xl4)] (by decide) rfl ?_
  refine r_iload C dX10_bitsWithin_65 0 rfl ?_
  refine r_if_eq C dX10_bitsWithin_67 99 (by decide) (fun hc => ?_) (fun hc => ?_)
  · replace hw := hw.1 hc
    refine r_sub [1, 2, 3, 4, 5] rfl ?_
    exact tb_X10_bitsWithin_99 C hr hK5 hw
  · replace hw := hw.2 hc
    refine r_aload_n C dX10_bitsWithin_70 1 rfl ?_
    have hob := hw.1
    obtain ⟨rv1, hp, hw⟩ := hw.2
    refine r_getP C fl_RX10_15_9 hob hp (fun _ _ _ => rfl) dX10_bitsWithin_71 ?_
    refine r_iload C dX10_bitsWithin_74 5 rfl ?_
    refine r_iaload C hw.1 hw.2.1 dX10_bitsWithin_76 ?_
    replace hw := hw.2.2
    refine r_iload_n C dX10_bitsWithin_77 2 rfl ?_
    refine r_icmp_eq C dX10_bitsWithin_78 92 (by decide) (fun hc => ?_) (fun hc => ?_)
    · replace hw := hw.1 hc
      refine r_sub [1, 2, 3, 4, 5] rfl ?_
      exact tb_X10_bitsWithin_92 C hr hK5 hw
    · replace hw := hw.2 hc
      refine r_aload_n C dX10_bitsWithin_81 1 rfl ?_
      have hob := hw.1
      obtain ⟨rv2, hp, hw⟩ := hw.2
      refine r_getP C fl_RX10_15_9 hob hp (fun _ _ _ => rfl) dX10_bitsWithin_82 ?_
      refine r_iload C dX10_bitsWithin_85 5 rfl ?_
      refine r_iaload C hw.1 hw.2.1 dX10_bitsWithin_87 ?_
      replace hw := hw.2.2
      refine r_iload_n C dX10_bitsWithin_88 3 rfl ?_
      refine r_icmp_ne C dX10_bitsWithin_89 99 (by decide) (fun hc => ?_) (fun hc => ?_)
      · replace hw := hw.1 hc
        refine r_sub [1, 2, 3, 4, 5] rfl ?_
        exact tb_X10_bitsWithin_99 C hr hK5 hw
      · replace hw := hw.2 hc
        refine r_sub [1, 2, 3, 4, 5] rfl ?_
        exact tb_X10_bitsWithin_92 C hr hK5 hw
def wb_X10_bitsWithin_58 (K5 : AH → Nat → Int32 → Int32 → Int32 → Int32 → Prop) (h : AH) (al0 : Nat) (xl1 : Int32) (xl2 : Int32) (xl3 : Int32) (xl4 : Int32)  (post : AH → Int32 → Prop) : Prop := wb_X10_bitsWithin_63 K5 h al0 xl1 xl2 xl3 xl4 1 post
set_option maxRecDepth 100000 in
theorem tb_X10_bitsWithin_58 {G : GG} {p : Program} {l : Launch} {e : Env} {R : Room} {s : State} {m : MethodId} {args : Array Value} {below : List Frame} {meth : Method} {c : Code} {n0 s0 : Nat} {post : AH → Int32 → Prop} (C : Cx G p R s m args meth c 6 cX10_bitsWithin RX10 n0 s0 0 0) (hr : meth.sig.returnType = (some .int)) {K5 : AH → Nat → Int32 → Int32 → Int32 → Int32 → Prop} (hK5 : ∀ (h : AH) (al0 : Nat) (xl1 : Int32) (xl2 : Int32) (xl3 : Int32) (xl4 : Int32), K5 h al0 xl1 xl2 xl3 xl4 → AW G p l e R s m args below meth c 6 (QM G (pI post) args s below n0 s0) 5 [(0, .ref (G.1 + al0)), (1, .int xl1), (2, .int xl2), (3, .int xl3), (4, .int xl4)] [] h) {h : AH} {al0 : Nat} {xl1 : Int32} {xl2 : Int32} {xl3 : Int32} {xl4 : Int32}  (hw : wb_X10_bitsWithin_58 K5 h al0 xl1 xl2 xl3 xl4 post) : AW G p l e R s m args below meth c 6 (QM G (pI post) args s below n0 s0) 58 [(0, .ref (G.1 + al0)), (1, .int xl1), (2, .int xl2), (3, .int xl3), (4, .int xl4)] [] h := by
  unfold wb_X10_bitsWithin_58 at hw
  refine r_iconst (v := 1) C dX10_bitsWithin_58 (by decide) ?_
  refine r_goto C dX10_bitsWithin_59 63 (by decide) ?_
  refine r_sub [0, 1, 2, 3, 4] rfl ?_
  exact tb_X10_bitsWithin_63 C hr hK5 hw
def wb_X10_bitsWithin_5 (K5 : AH → Nat → Int32 → Int32 → Int32 → Int32 → Prop) (h : AH) (al0 : Nat) (xl1 : Int32) (xl2 : Int32) (xl3 : Int32) (xl4 : Int32)  (post : AH → Int32 → Prop) : Prop := (ob h al0 9) ∧ (((aI h al0 0) ≤ xl4 → (post h xl3)) ∧ (¬ (aI h al0 0) ≤ xl4 → ((ob h al0 9) ∧ (∃ rv1, aP h al0 1 = some rv1 ∧ ((ob h rv1 13) ∧ ((vp_in xl4 (aL h rv1)) ∧ (((aI h rv1 xl4.toNatClampNeg) = 2 → (wb_X10_bitsWithin_58 K5 h al0 xl1 xl2 xl3 xl4 post)) ∧ (¬ (aI h rv1 xl4.toNatClampNeg) = 2 → ((ob h al0 9) ∧ (∃ rv2, aP h al0 1 = some rv2 ∧ ((ob h rv2 13) ∧ ((vp_in xl4 (aL h rv2)) ∧ (((aI h rv2 xl4.toNatClampNeg) = 3 → (wb_X10_bitsWithin_58 K5 h al0 xl1 xl2 xl3 xl4 post)) ∧ (¬ (aI h rv2 xl4.toNatClampNeg) = 3 → ((ob h al0 9) ∧ (∃ rv3, aP h al0 3 = some rv3 ∧ ((ob h rv3 13) ∧ ((vp_in xl4 (aL h rv3)) ∧ (((aI h rv3 xl4.toNatClampNeg) = xl1 → (wb_X10_bitsWithin_58 K5 h al0 xl1 xl2 xl3 xl4 post)) ∧ (¬ (aI h rv3 xl4.toNatClampNeg) = xl1 → ((ob h al0 9) ∧ (∃ rv4, aP h al0 3 = some rv4 ∧ ((ob h rv4 13) ∧ ((vp_in xl4 (aL h rv4)) ∧ ((¬ (aI h rv4 xl4.toNatClampNeg) = xl2 → (wb_X10_bitsWithin_63 K5 h al0 xl1 xl2 xl3 xl4 0 post)) ∧ ((aI h rv4 xl4.toNatClampNeg) = xl2 → (wb_X10_bitsWithin_58 K5 h al0 xl1 xl2 xl3 xl4 post)))))))))))))))))))))))))))
set_option maxRecDepth 100000 in
theorem tb_X10_bitsWithin_5 {G : GG} {p : Program} {l : Launch} {e : Env} {R : Room} {s : State} {m : MethodId} {args : Array Value} {below : List Frame} {meth : Method} {c : Code} {n0 s0 : Nat} {post : AH → Int32 → Prop} (C : Cx G p R s m args meth c 6 cX10_bitsWithin RX10 n0 s0 0 0) (hr : meth.sig.returnType = (some .int)) {K5 : AH → Nat → Int32 → Int32 → Int32 → Int32 → Prop} (hK5 : ∀ (h : AH) (al0 : Nat) (xl1 : Int32) (xl2 : Int32) (xl3 : Int32) (xl4 : Int32), K5 h al0 xl1 xl2 xl3 xl4 → AW G p l e R s m args below meth c 6 (QM G (pI post) args s below n0 s0) 5 [(0, .ref (G.1 + al0)), (1, .int xl1), (2, .int xl2), (3, .int xl3), (4, .int xl4)] [] h) {h : AH} {al0 : Nat} {xl1 : Int32} {xl2 : Int32} {xl3 : Int32} {xl4 : Int32}  (hw : wb_X10_bitsWithin_5 K5 h al0 xl1 xl2 xl3 xl4 post) : AW G p l e R s m args below meth c 6 (QM G (pI post) args s below n0 s0) 5 [(0, .ref (G.1 + al0)), (1, .int xl1), (2, .int xl2), (3, .int xl3), (4, .int xl4)] [] h := by
  unfold wb_X10_bitsWithin_5 at hw
  refine r_iload C dX10_bitsWithin_5 4 rfl ?_
  refine r_aload_n C dX10_bitsWithin_7 0 rfl ?_
  refine r_getI C fl_RX10_24_9 hw.1 (fun _ _ _ => rfl) dX10_bitsWithin_8 ?_
  replace hw := hw.2
  refine r_icmp_ge C dX10_bitsWithin_11 105 (by decide) (fun hc => ?_) (fun hc => ?_)
  · replace hw := hw.1 hc
    refine r_iload_n C dX10_bitsWithin_105 3 rfl ?_
    exact r_iret C hr dX10_bitsWithin_106 hw
  · replace hw := hw.2 hc
    refine r_aload_n C dX10_bitsWithin_14 0 rfl ?_
    have hob := hw.1
    obtain ⟨rv1, hp, hw⟩ := hw.2
    refine r_getP C fl_RX10_9_9 hob hp (fun _ _ _ => rfl) dX10_bitsWithin_15 ?_
    refine r_iload C dX10_bitsWithin_18 4 rfl ?_
    refine r_iaload C hw.1 hw.2.1 dX10_bitsWithin_20 ?_
    replace hw := hw.2.2
    refine r_iconst (v := 2) C dX10_bitsWithin_21 (by decide) ?_
    refine r_icmp_eq C dX10_bitsWithin_22 58 (by decide) (fun hc => ?_) (fun hc => ?_)
    · replace hw := hw.1 hc
      refine r_sub [0, 1, 2, 3, 4] rfl ?_
      exact tb_X10_bitsWithin_58 C hr hK5 hw
    · replace hw := hw.2 hc
      refine r_aload_n C dX10_bitsWithin_25 0 rfl ?_
      have hob := hw.1
      obtain ⟨rv2, hp, hw⟩ := hw.2
      refine r_getP C fl_RX10_9_9 hob hp (fun _ _ _ => rfl) dX10_bitsWithin_26 ?_
      refine r_iload C dX10_bitsWithin_29 4 rfl ?_
      refine r_iaload C hw.1 hw.2.1 dX10_bitsWithin_31 ?_
      replace hw := hw.2.2
      refine r_iconst (v := 3) C dX10_bitsWithin_32 (by decide) ?_
      refine r_icmp_eq C dX10_bitsWithin_33 58 (by decide) (fun hc => ?_) (fun hc => ?_)
      · replace hw := hw.1 hc
        refine r_sub [0, 1, 2, 3, 4] rfl ?_
        exact tb_X10_bitsWithin_58 C hr hK5 hw
      · replace hw := hw.2 hc
        refine r_aload_n C dX10_bitsWithin_36 0 rfl ?_
        have hob := hw.1
        obtain ⟨rv3, hp, hw⟩ := hw.2
        refine r_getP C fl_RX10_18_9 hob hp (fun _ _ _ => rfl) dX10_bitsWithin_37 ?_
        refine r_iload C dX10_bitsWithin_40 4 rfl ?_
        refine r_iaload C hw.1 hw.2.1 dX10_bitsWithin_42 ?_
        replace hw := hw.2.2
        refine r_iload_n C dX10_bitsWithin_43 1 rfl ?_
        refine r_icmp_eq C dX10_bitsWithin_44 58 (by decide) (fun hc => ?_) (fun hc => ?_)
        · replace hw := hw.1 hc
          refine r_sub [0, 1, 2, 3, 4] rfl ?_
          exact tb_X10_bitsWithin_58 C hr hK5 hw
        · replace hw := hw.2 hc
          refine r_aload_n C dX10_bitsWithin_47 0 rfl ?_
          have hob := hw.1
          obtain ⟨rv4, hp, hw⟩ := hw.2
          refine r_getP C fl_RX10_18_9 hob hp (fun _ _ _ => rfl) dX10_bitsWithin_48 ?_
          refine r_iload C dX10_bitsWithin_51 4 rfl ?_
          refine r_iaload C hw.1 hw.2.1 dX10_bitsWithin_53 ?_
          replace hw := hw.2.2
          refine r_iload_n C dX10_bitsWithin_54 2 rfl ?_
          refine r_icmp_ne C dX10_bitsWithin_55 62 (by decide) (fun hc => ?_) (fun hc => ?_)
          · replace hw := hw.1 hc
            refine r_iconst (v := 0) C dX10_bitsWithin_62 (by decide) ?_
            refine r_sub [0, 1, 2, 3, 4] rfl ?_
            exact tb_X10_bitsWithin_63 C hr hK5 hw
          · replace hw := hw.2 hc
            refine r_sub [0, 1, 2, 3, 4] rfl ?_
            exact tb_X10_bitsWithin_58 C hr hK5 hw
def wl_X10_bitsWithin_5  (post : AH → Int32 → Prop) : Nat → AH → Nat → Int32 → Int32 → Int32 → Int32 → Prop
  | 0 => fun _ _ _ _ _ _ => False
  | n + 1 => fun h al0 xl1 xl2 xl3 xl4 => wb_X10_bitsWithin_5  (wl_X10_bitsWithin_5  post n) h al0 xl1 xl2 xl3 xl4 post
theorem tl_X10_bitsWithin_5 {G : GG} {p : Program} {l : Launch} {e : Env} {R : Room} {s : State} {m : MethodId} {args : Array Value} {below : List Frame} {meth : Method} {c : Code} {n0 s0 : Nat} {post : AH → Int32 → Prop} (C : Cx G p R s m args meth c 6 cX10_bitsWithin RX10 n0 s0 0 0) (hr : meth.sig.returnType = (some .int))   : ∀ (n : Nat) (h : AH) (al0 : Nat) (xl1 : Int32) (xl2 : Int32) (xl3 : Int32) (xl4 : Int32), wl_X10_bitsWithin_5  post n h al0 xl1 xl2 xl3 xl4 → AW G p l e R s m args below meth c 6 (QM G (pI post) args s below n0 s0) 5 [(0, .ref (G.1 + al0)), (1, .int xl1), (2, .int xl2), (3, .int xl3), (4, .int xl4)] [] h := by
  intro n
  induction n with
  | zero => intro h al0 xl1 xl2 xl3 xl4 hw; exact hw.elim
  | succ n ih => intro h al0 xl1 xl2 xl3 xl4 hw; exact tb_X10_bitsWithin_5 C hr  ih hw
def wp_X10_bitsWithin (h : AH) (a0 : Nat) (x1 : Int32) (x2 : Int32) (post : AH → Int32 → Prop) : Prop := ∃ n, wl_X10_bitsWithin_5  post n h a0 x1 x2 0 0
set_option maxRecDepth 100000 in
theorem c_X10_bitsWithin (G : GG) (h : AH) (a0 : Nat) (x1 : Int32) (x2 : Int32) (post : AH → Int32 → Prop) (hw : wp_X10_bitsWithin h a0 x1 x2 post) : MC G yX10_bitsWithin cX10_bitsWithin 6 (some .int) 0 0 h [.ref (G.1 + a0), .int x1, .int x2] (pI post) := by
  refine MC.of (lv := [(0, .ref (G.1 + a0)), (1, .int x1), (2, .int x2)]) (by decide) (Nat.le_of_ble_eq_true rfl) rfl fun p l e R s m args below meth c C hr hnm => ?_
  unfold wp_X10_bitsWithin at hw
  refine r_iconst (v := 0) C dX10_bitsWithin_0 (by decide) ?_
  refine r_istore_n C dX10_bitsWithin_1 [(3, .int 0), (0, .ref (G.1 + a0)), (1, .int x1), (2, .int x2)] (by decide) rfl ?_
  refine r_iconst (v := 0) C dX10_bitsWithin_2 (by decide) ?_
  refine r_istore C dX10_bitsWithin_3 [(4, .int 0), (3, .int 0), (0, .ref (G.1 + a0)), (1, .int x1), (2, .int x2)] (by decide) rfl ?_
  refine r_sub [2, 3, 4, 1, 0] rfl ?_
  obtain ⟨n, hw⟩ := hw
  exact tl_X10_bitsWithin_5 C hr  n _ _ _ _ _ _ hw
theorem dX10_around_0 : decode cX10_around 0 = .ok (.lload_n 0, 1) := by decide +kernel
theorem dX10_around_1 : decode cX10_around 1 = .ok (.bipush 8, 2) := by decide +kernel
theorem dX10_around_3 : decode cX10_around 3 = .ok (.lushr, 1) := by decide +kernel
theorem dX10_around_4 : decode cX10_around 4 = .ok (.lload_n 0, 1) := by decide +kernel
theorem dX10_around_5 : decode cX10_around 5 = .ok (.bipush 8, 2) := by decide +kernel
theorem dX10_around_7 : decode cX10_around 7 = .ok (.lshl, 1) := by decide +kernel
theorem dX10_around_8 : decode cX10_around 8 = .ok (.lor, 1) := by decide +kernel
theorem dX10_around_9 : decode cX10_around 9 = .ok (.lload_n 0, 1) := by decide +kernel
theorem dX10_around_10 : decode cX10_around 10 = .ok (.ldc2_w 48, 3) := by decide +kernel
theorem dX10_around_13 : decode cX10_around 13 = .ok (.land, 1) := by decide +kernel
theorem dX10_around_14 : decode cX10_around 14 = .ok (.iconst 1, 1) := by decide +kernel
theorem dX10_around_15 : decode cX10_around 15 = .ok (.lshl, 1) := by decide +kernel
theorem dX10_around_16 : decode cX10_around 16 = .ok (.lor, 1) := by decide +kernel
theorem dX10_around_17 : decode cX10_around 17 = .ok (.lload_n 0, 1) := by decide +kernel
theorem dX10_around_18 : decode cX10_around 18 = .ok (.ldc2_w 50, 3) := by decide +kernel
theorem dX10_around_21 : decode cX10_around 21 = .ok (.land, 1) := by decide +kernel
theorem dX10_around_22 : decode cX10_around 22 = .ok (.iconst 1, 1) := by decide +kernel
theorem dX10_around_23 : decode cX10_around 23 = .ok (.lushr, 1) := by decide +kernel
theorem dX10_around_24 : decode cX10_around 24 = .ok (.lor, 1) := by decide +kernel
theorem dX10_around_25 : decode cX10_around 25 = .ok (.lreturn, 1) := by decide +kernel
def wp_X10_around (h : AH) (z0 : Int64) (post : AH → Int64 → Prop) : Prop := post h (((((z0.toUInt64 >>> ((8 : Int32).toInt64.toUInt64 &&& Int64.toUInt64 63)).toInt64) ||| (z0 <<< ((8 : Int32).toInt64 &&& 63))) ||| ((z0 &&& (9187201950435737471 : Int64)) <<< ((1 : Int32).toInt64 &&& 63))) ||| (((z0 &&& (-72340172838076674 : Int64)).toUInt64 >>> ((1 : Int32).toInt64.toUInt64 &&& Int64.toUInt64 63)).toInt64))
set_option maxRecDepth 100000 in
theorem c_X10_around (G : GG) (h : AH) (z0 : Int64) (post : AH → Int64 → Prop) (hw : wp_X10_around h z0 post) : MC G yX10_around cX10_around 2 (some .long) 0 0 h [.long z0] (pJ post) := by
  refine MC.of (lv := [(0, .long z0)]) (by decide) (Nat.le_of_ble_eq_true rfl) rfl fun p l e R s m args below meth c C hr hnm => ?_
  unfold wp_X10_around at hw
  refine r_lload_n C dX10_around_0 0 rfl ?_
  refine r_bipush (v := 8) C dX10_around_1 (by decide) ?_
  refine r_lushr C dX10_around_3 ?_
  refine r_lload_n C dX10_around_4 0 rfl ?_
  refine r_bipush (v := 8) C dX10_around_5 (by decide) ?_
  refine r_lshl C dX10_around_7 ?_
  refine r_lor C dX10_around_8 ?_
  refine r_lload_n C dX10_around_9 0 rfl ?_
  refine r_ldc2 (v := 9187201950435737471) C (gm4 (List.mem_of_getElem? (i := 213) rfl) rfl) dX10_around_10 ?_
  refine r_land C dX10_around_13 ?_
  refine r_iconst (v := 1) C dX10_around_14 (by decide) ?_
  refine r_lshl C dX10_around_15 ?_
  refine r_lor C dX10_around_16 ?_
  refine r_lload_n C dX10_around_17 0 rfl ?_
  refine r_ldc2 (v := -72340172838076674) C (gm4 (List.mem_of_getElem? (i := 214) rfl) rfl) dX10_around_18 ?_
  refine r_land C dX10_around_21 ?_
  refine r_iconst (v := 1) C dX10_around_22 (by decide) ?_
  refine r_lushr C dX10_around_23 ?_
  refine r_lor C dX10_around_24 ?_
  exact r_lret C hr dX10_around_25 hw
theorem dX10_shifted_0 : decode cX10_shifted 0 = .ok (.iload_n 2, 1) := by decide +kernel
theorem dX10_shifted_1 : decode cX10_shifted 1 = .ok (.tableswitch 45 0 2 #[27, 32, 40], 27) := by decide +kernel
theorem dX10_shifted_28 : decode cX10_shifted 28 = .ok (.lload_n 0, 1) := by decide +kernel
theorem dX10_shifted_29 : decode cX10_shifted 29 = .ok (.bipush 8, 2) := by decide +kernel
theorem dX10_shifted_31 : decode cX10_shifted 31 = .ok (.lushr, 1) := by decide +kernel
theorem dX10_shifted_32 : decode cX10_shifted 32 = .ok (.lreturn, 1) := by decide +kernel
theorem dX10_shifted_33 : decode cX10_shifted 33 = .ok (.lload_n 0, 1) := by decide +kernel
theorem dX10_shifted_34 : decode cX10_shifted 34 = .ok (.ldc2_w 48, 3) := by decide +kernel
theorem dX10_shifted_37 : decode cX10_shifted 37 = .ok (.land, 1) := by decide +kernel
theorem dX10_shifted_38 : decode cX10_shifted 38 = .ok (.iconst 1, 1) := by decide +kernel
theorem dX10_shifted_39 : decode cX10_shifted 39 = .ok (.lshl, 1) := by decide +kernel
theorem dX10_shifted_40 : decode cX10_shifted 40 = .ok (.lreturn, 1) := by decide +kernel
theorem dX10_shifted_41 : decode cX10_shifted 41 = .ok (.lload_n 0, 1) := by decide +kernel
theorem dX10_shifted_42 : decode cX10_shifted 42 = .ok (.bipush 8, 2) := by decide +kernel
theorem dX10_shifted_44 : decode cX10_shifted 44 = .ok (.lshl, 1) := by decide +kernel
theorem dX10_shifted_45 : decode cX10_shifted 45 = .ok (.lreturn, 1) := by decide +kernel
theorem dX10_shifted_46 : decode cX10_shifted 46 = .ok (.lload_n 0, 1) := by decide +kernel
theorem dX10_shifted_47 : decode cX10_shifted 47 = .ok (.ldc2_w 50, 3) := by decide +kernel
theorem dX10_shifted_50 : decode cX10_shifted 50 = .ok (.land, 1) := by decide +kernel
theorem dX10_shifted_51 : decode cX10_shifted 51 = .ok (.iconst 1, 1) := by decide +kernel
theorem dX10_shifted_52 : decode cX10_shifted 52 = .ok (.lushr, 1) := by decide +kernel
theorem dX10_shifted_53 : decode cX10_shifted 53 = .ok (.lreturn, 1) := by decide +kernel
def wp_X10_shifted (h : AH) (z0 : Int64) (x2 : Int32) (post : AH → Int64 → Prop) : Prop := (x2 = 0 → (post h ((z0.toUInt64 >>> ((8 : Int32).toInt64.toUInt64 &&& Int64.toUInt64 63)).toInt64))) ∧ (x2 = 1 → (post h ((z0 &&& (9187201950435737471 : Int64)) <<< ((1 : Int32).toInt64 &&& 63)))) ∧ (x2 = 2 → (post h (z0 <<< ((8 : Int32).toInt64 &&& 63)))) ∧ ((x2.toInt < 0 ∨ 2 < x2.toInt) → (post h (((z0 &&& (-72340172838076674 : Int64)).toUInt64 >>> ((1 : Int32).toInt64.toUInt64 &&& Int64.toUInt64 63)).toInt64)))
set_option maxRecDepth 100000 in
theorem c_X10_shifted (G : GG) (h : AH) (z0 : Int64) (x2 : Int32) (post : AH → Int64 → Prop) (hw : wp_X10_shifted h z0 x2 post) : MC G yX10_shifted cX10_shifted 3 (some .long) 0 0 h [.long z0, .int x2] (pJ post) := by
  refine MC.of (lv := [(0, .long z0), (2, .int x2)]) (by decide) (Nat.le_of_ble_eq_true rfl) rfl fun p l e R s m args below meth c C hr hnm => ?_
  unfold wp_X10_shifted at hw
  refine r_iload_n C dX10_shifted_0 1 rfl ?_
  by_cases hc0 : x2 = 0
  · replace hw := hw.1 hc0
    refine r_tableIn C dX10_shifted_1 (by rw [hc0]; decide) (by rw [hc0]; decide) (by rw [hc0]; rfl) 28 (by decide) ?_
    refine r_lload_n C dX10_shifted_28 0 rfl ?_
    refine r_bipush (v := 8) C dX10_shifted_29 (by decide) ?_
    refine r_lushr C dX10_shifted_31 ?_
    exact r_lret C hr dX10_shifted_32 hw
  by_cases hc1 : x2 = 1
  · replace hw := hw.2.1 hc1
    refine r_tableIn C dX10_shifted_1 (by rw [hc1]; decide) (by rw [hc1]; decide) (by rw [hc1]; rfl) 33 (by decide) ?_
    refine r_lload_n C dX10_shifted_33 0 rfl ?_
    refine r_ldc2 (v := 9187201950435737471) C (gm4 (List.mem_of_getElem? (i := 213) rfl) rfl) dX10_shifted_34 ?_
    refine r_land C dX10_shifted_37 ?_
    refine r_iconst (v := 1) C dX10_shifted_38 (by decide) ?_
    refine r_lshl C dX10_shifted_39 ?_
    exact r_lret C hr dX10_shifted_40 hw
  by_cases hc2 : x2 = 2
  · replace hw := hw.2.2.1 hc2
    refine r_tableIn C dX10_shifted_1 (by rw [hc2]; decide) (by rw [hc2]; decide) (by rw [hc2]; rfl) 41 (by decide) ?_
    refine r_lload_n C dX10_shifted_41 0 rfl ?_
    refine r_bipush (v := 8) C dX10_shifted_42 (by decide) ?_
    refine r_lshl C dX10_shifted_44 ?_
    exact r_lret C hr dX10_shifted_45 hw
  have hcd : x2.toInt < 0 ∨ 2 < x2.toInt := sw_out x2 2 (by decide) (fun k hk => match k, hk with | 0, _ => hc0 | 1, _ => hc1 | 2, _ => hc2 | k + 3, hk => absurd hk (by omega))
  replace hw := hw.2.2.2 hcd
  refine r_tableOut C dX10_shifted_1 hcd 46 (by decide) ?_
  refine r_lload_n C dX10_shifted_46 0 rfl ?_
  refine r_ldc2 (v := -72340172838076674) C (gm4 (List.mem_of_getElem? (i := 214) rfl) rfl) dX10_shifted_47 ?_
  refine r_land C dX10_shifted_50 ?_
  refine r_iconst (v := 1) C dX10_shifted_51 (by decide) ?_
  refine r_lushr C dX10_shifted_52 ?_
  exact r_lret C hr dX10_shifted_53 hw
theorem dX10_isSo_0 : decode cX10_isSo 0 = .ok (.aload_n 2, 1) := by decide +kernel
theorem dX10_isSo_1 : decode cX10_isSo 1 = .ok (.aload_n 0, 1) := by decide +kernel
theorem dX10_isSo_2 : decode cX10_isSo 2 = .ok (.getfield 15, 3) := by decide +kernel
theorem dX10_isSo_5 : decode cX10_isSo 5 = .ok (.iload_n 1, 1) := by decide +kernel
theorem dX10_isSo_6 : decode cX10_isSo 6 = .ok (.iaload, 1) := by decide +kernel
theorem dX10_isSo_7 : decode cX10_isSo 7 = .ok (.laload, 1) := by decide +kernel
theorem dX10_isSo_8 : decode cX10_isSo 8 = .ok (.lstore 5, 2) := by decide +kernel
theorem dX10_isSo_10 : decode cX10_isSo 10 = .ok (.aload_n 0, 1) := by decide +kernel
theorem dX10_isSo_11 : decode cX10_isSo 11 = .ok (.getfield 9, 3) := by decide +kernel
theorem dX10_isSo_14 : decode cX10_isSo 14 = .ok (.iload_n 1, 1) := by decide +kernel
theorem dX10_isSo_15 : decode cX10_isSo 15 = .ok (.iaload, 1) := by decide +kernel
theorem dX10_isSo_16 : decode cX10_isSo 16 = .ok (.tableswitch 109 0 2 #[28, 53, 78], 28) := by decide +kernel
theorem dX10_isSo_44 : decode cX10_isSo 44 = .ok (.lload 5, 2) := by decide +kernel
theorem dX10_isSo_46 : decode cX10_isSo 46 = .ok (.invokestatic 38, 3) := by decide +kernel
theorem dX10_isSo_49 : decode cX10_isSo 49 = .ok (.aload_n 2, 1) := by decide +kernel
theorem dX10_isSo_50 : decode cX10_isSo 50 = .ok (.aload_n 0, 1) := by decide +kernel
theorem dX10_isSo_51 : decode cX10_isSo 51 = .ok (.getfield 18, 3) := by decide +kernel
theorem dX10_isSo_54 : decode cX10_isSo 54 = .ok (.iload_n 1, 1) := by decide +kernel
theorem dX10_isSo_55 : decode cX10_isSo 55 = .ok (.iaload, 1) := by decide +kernel
theorem dX10_isSo_56 : decode cX10_isSo 56 = .ok (.laload, 1) := by decide +kernel
theorem dX10_isSo_57 : decode cX10_isSo 57 = .ok (.land, 1) := by decide +kernel
theorem dX10_isSo_58 : decode cX10_isSo 58 = .ok (.lconst 0, 1) := by decide +kernel
theorem dX10_isSo_59 : decode cX10_isSo 59 = .ok (.lcmp, 1) := by decide +kernel
theorem dX10_isSo_60 : decode cX10_isSo 60 = .ok (.ifCond .eq 7, 3) := by decide +kernel
theorem dX10_isSo_63 : decode cX10_isSo 63 = .ok (.iconst 1, 1) := by decide +kernel
theorem dX10_isSo_64 : decode cX10_isSo 64 = .ok (.goto 4, 3) := by decide +kernel
theorem dX10_isSo_67 : decode cX10_isSo 67 = .ok (.iconst 0, 1) := by decide +kernel
theorem dX10_isSo_68 : decode cX10_isSo 68 = .ok (.ireturn, 1) := by decide +kernel
theorem dX10_isSo_69 : decode cX10_isSo 69 = .ok (.lload 5, 2) := by decide +kernel
theorem dX10_isSo_71 : decode cX10_isSo 71 = .ok (.invokestatic 38, 3) := by decide +kernel
theorem dX10_isSo_74 : decode cX10_isSo 74 = .ok (.aload_n 2, 1) := by decide +kernel
theorem dX10_isSo_75 : decode cX10_isSo 75 = .ok (.aload_n 0, 1) := by decide +kernel
theorem dX10_isSo_76 : decode cX10_isSo 76 = .ok (.getfield 18, 3) := by decide +kernel
theorem dX10_isSo_79 : decode cX10_isSo 79 = .ok (.iload_n 1, 1) := by decide +kernel
theorem dX10_isSo_80 : decode cX10_isSo 80 = .ok (.iaload, 1) := by decide +kernel
theorem dX10_isSo_81 : decode cX10_isSo 81 = .ok (.laload, 1) := by decide +kernel
theorem dX10_isSo_82 : decode cX10_isSo 82 = .ok (.land, 1) := by decide +kernel
theorem dX10_isSo_83 : decode cX10_isSo 83 = .ok (.lconst 0, 1) := by decide +kernel
theorem dX10_isSo_84 : decode cX10_isSo 84 = .ok (.lcmp, 1) := by decide +kernel
theorem dX10_isSo_85 : decode cX10_isSo 85 = .ok (.ifCond .ne 7, 3) := by decide +kernel
theorem dX10_isSo_88 : decode cX10_isSo 88 = .ok (.iconst 1, 1) := by decide +kernel
theorem dX10_isSo_89 : decode cX10_isSo 89 = .ok (.goto 4, 3) := by decide +kernel
theorem dX10_isSo_92 : decode cX10_isSo 92 = .ok (.iconst 0, 1) := by decide +kernel
theorem dX10_isSo_93 : decode cX10_isSo 93 = .ok (.ireturn, 1) := by decide +kernel
theorem dX10_isSo_94 : decode cX10_isSo 94 = .ok (.lload 5, 2) := by decide +kernel
theorem dX10_isSo_96 : decode cX10_isSo 96 = .ok (.aload_n 0, 1) := by decide +kernel
theorem dX10_isSo_97 : decode cX10_isSo 97 = .ok (.getfield 18, 3) := by decide +kernel
theorem dX10_isSo_100 : decode cX10_isSo 100 = .ok (.iload_n 1, 1) := by decide +kernel
theorem dX10_isSo_101 : decode cX10_isSo 101 = .ok (.iaload, 1) := by decide +kernel
theorem dX10_isSo_102 : decode cX10_isSo 102 = .ok (.invokestatic 42, 3) := by decide +kernel
theorem dX10_isSo_105 : decode cX10_isSo 105 = .ok (.lload 5, 2) := by decide +kernel
theorem dX10_isSo_107 : decode cX10_isSo 107 = .ok (.ldc2_w 46, 3) := by decide +kernel
theorem dX10_isSo_110 : decode cX10_isSo 110 = .ok (.lxor, 1) := by decide +kernel
theorem dX10_isSo_111 : decode cX10_isSo 111 = .ok (.land, 1) := by decide +kernel
theorem dX10_isSo_112 : decode cX10_isSo 112 = .ok (.lload_n 3, 1) := by decide +kernel
theorem dX10_isSo_113 : decode cX10_isSo 113 = .ok (.land, 1) := by decide +kernel
theorem dX10_isSo_114 : decode cX10_isSo 114 = .ok (.lconst 0, 1) := by decide +kernel
theorem dX10_isSo_115 : decode cX10_isSo 115 = .ok (.lcmp, 1) := by decide +kernel
theorem dX10_isSo_116 : decode cX10_isSo 116 = .ok (.ifCond .ne 7, 3) := by decide +kernel
theorem dX10_isSo_119 : decode cX10_isSo 119 = .ok (.iconst 1, 1) := by decide +kernel
theorem dX10_isSo_120 : decode cX10_isSo 120 = .ok (.goto 4, 3) := by decide +kernel
theorem dX10_isSo_123 : decode cX10_isSo 123 = .ok (.iconst 0, 1) := by decide +kernel
theorem dX10_isSo_124 : decode cX10_isSo 124 = .ok (.ireturn, 1) := by decide +kernel
theorem dX10_isSo_125 : decode cX10_isSo 125 = .ok (.lload 5, 2) := by decide +kernel
theorem dX10_isSo_127 : decode cX10_isSo 127 = .ok (.aload_n 0, 1) := by decide +kernel
theorem dX10_isSo_128 : decode cX10_isSo 128 = .ok (.getfield 18, 3) := by decide +kernel
theorem dX10_isSo_131 : decode cX10_isSo 131 = .ok (.iload_n 1, 1) := by decide +kernel
theorem dX10_isSo_132 : decode cX10_isSo 132 = .ok (.iaload, 1) := by decide +kernel
theorem dX10_isSo_133 : decode cX10_isSo 133 = .ok (.lushr, 1) := by decide +kernel
theorem dX10_isSo_134 : decode cX10_isSo 134 = .ok (.lconst 1, 1) := by decide +kernel
theorem dX10_isSo_135 : decode cX10_isSo 135 = .ok (.land, 1) := by decide +kernel
theorem dX10_isSo_136 : decode cX10_isSo 136 = .ok (.lconst 0, 1) := by decide +kernel
theorem dX10_isSo_137 : decode cX10_isSo 137 = .ok (.lcmp, 1) := by decide +kernel
theorem dX10_isSo_138 : decode cX10_isSo 138 = .ok (.ifCond .eq 7, 3) := by decide +kernel
theorem dX10_isSo_141 : decode cX10_isSo 141 = .ok (.iconst 1, 1) := by decide +kernel
theorem dX10_isSo_142 : decode cX10_isSo 142 = .ok (.goto 4, 3) := by decide +kernel
theorem dX10_isSo_145 : decode cX10_isSo 145 = .ok (.iconst 0, 1) := by decide +kernel
theorem dX10_isSo_146 : decode cX10_isSo 146 = .ok (.ireturn, 1) := by decide +kernel
def wp_X10_isSo (h : AH) (a0 : Nat) (x1 : Int32) (a2 : Nat) (z3 : Int64) (post : AH → Int32 → Prop) : Prop := (ob h a0 9) ∧ (∃ rv1, aP h a0 2 = some rv1 ∧ ((ob h rv1 13) ∧ ((vp_in x1 (aL h rv1)) ∧ ((ob h a2 14) ∧ ((vp_in (aI h rv1 x1.toNatClampNeg) (aL h a2)) ∧ (∀ jv2 : Int64, jv2 = aJ h a2 (aI h rv1 x1.toNatClampNeg).toNatClampNeg → ((ob h a0 9) ∧ (∃ rv3, aP h a0 1 = some rv3 ∧ ((ob h rv3 13) ∧ ((vp_in x1 (aL h rv3)) ∧ (((aI h rv3 x1.toNatClampNeg) = 0 → (wp_X10_around h jv2 (fun hv4 jv5 => (ob hv4 a0 9) ∧ (∃ rv6, aP hv4 a0 3 = some rv6 ∧ ((ob hv4 rv6 13) ∧ ((vp_in x1 (aL hv4 rv6)) ∧ ((ob hv4 a2 14) ∧ ((vp_in (aI hv4 rv6 x1.toNatClampNeg) (aL hv4 a2)) ∧ (((lg_cmp (jv5 &&& (aJ hv4 a2 (aI hv4 rv6 x1.toNatClampNeg).toNatClampNeg)) 0) = 0 → (((0 : Int32) = 0 ∨ (0 : Int32) = 1) ∧ post hv4 0)) ∧ (¬ (lg_cmp (jv5 &&& (aJ hv4 a2 (aI hv4 rv6 x1.toNatClampNeg).toNatClampNeg)) 0) = 0 → (((1 : Int32) = 0 ∨ (1 : Int32) = 1) ∧ post hv4 1))))))))))) ∧ ((aI h rv3 x1.toNatClampNeg) = 1 → (wp_X10_around h jv2 (fun hv7 jv8 => (ob hv7 a0 9) ∧ (∃ rv9, aP hv7 a0 3 = some rv9 ∧ ((ob hv7 rv9 13) ∧ ((vp_in x1 (aL hv7 rv9)) ∧ ((ob hv7 a2 14) ∧ ((vp_in (aI hv7 rv9 x1.toNatClampNeg) (aL hv7 a2)) ∧ ((¬ (lg_cmp (jv8 &&& (aJ hv7 a2 (aI hv7 rv9 x1.toNatClampNeg).toNatClampNeg)) 0) = 0 → (((0 : Int32) = 0 ∨ (0 : Int32) = 1) ∧ post hv7 0)) ∧ ((lg_cmp (jv8 &&& (aJ hv7 a2 (aI hv7 rv9 x1.toNatClampNeg).toNatClampNeg)) 0) = 0 → (((1 : Int32) = 0 ∨ (1 : Int32) = 1) ∧ post hv7 1))))))))))) ∧ ((aI h rv3 x1.toNatClampNeg) = 2 → ((ob h a0 9) ∧ (∃ rv10, aP h a0 3 = some rv10 ∧ ((ob h rv10 13) ∧ ((vp_in x1 (aL h rv10)) ∧ (wp_X10_shifted h jv2 (aI h rv10 x1.toNatClampNeg) (fun hv11 jv12 => (¬ (lg_cmp ((jv12 &&& (jv2 ^^^ (-1 : Int64))) &&& z3) 0) = 0 → (((0 : Int32) = 0 ∨ (0 : Int32) = 1) ∧ post hv11 0)) ∧ ((lg_cmp ((jv12 &&& (jv2 ^^^ (-1 : Int64))) &&& z3) 0) = 0 → (((1 : Int32) = 0 ∨ (1 : Int32) = 1) ∧ post hv11 1))))))))) ∧ (((aI h rv3 x1.toNatClampNeg).toInt < 0 ∨ 2 < (aI h rv3 x1.toNatClampNeg).toInt) → ((ob h a0 9) ∧ (∃ rv13, aP h a0 3 = some rv13 ∧ ((ob h rv13 13) ∧ ((vp_in x1 (aL h rv13)) ∧ (((lg_cmp (((jv2.toUInt64 >>> ((aI h rv13 x1.toNatClampNeg).toInt64.toUInt64 &&& Int64.toUInt64 63)).toInt64) &&& (1 : Int64)) 0) = 0 → (((0 : Int32) = 0 ∨ (0 : Int32) = 1) ∧ post h 0)) ∧ (¬ (lg_cmp (((jv2.toUInt64 >>> ((aI h rv13 x1.toNatClampNeg).toInt64.toUInt64 &&& Int64.toUInt64 63)).toInt64) &&& (1 : Int64)) 0) = 0 → (((1 : Int32) = 0 ∨ (1 : Int32) = 1) ∧ post h 1)))))))))))))))))))
set_option maxRecDepth 100000 in
theorem c_X10_isSo (G : GG) (h : AH) (a0 : Nat) (x1 : Int32) (a2 : Nat) (z3 : Int64) (post : AH → Int32 → Prop) (hw : wp_X10_isSo h a0 x1 a2 z3 post) : MC G yX10_isSo cX10_isSo 7 (some .boolean) 1 22 h [.ref (G.1 + a0), .int x1, .ref (G.1 + a2), .long z3] (pI post) := by
  refine MC.of (lv := [(0, .ref (G.1 + a0)), (1, .int x1), (2, .ref (G.1 + a2)), (3, .long z3)]) (by decide) (Nat.le_of_ble_eq_true rfl) rfl fun p l e R s m args below meth c C hr hnm => ?_
  unfold wp_X10_isSo at hw
  refine r_aload_n C dX10_isSo_0 2 rfl ?_
  refine r_aload_n C dX10_isSo_1 0 rfl ?_
  have hob := hw.1
  obtain ⟨rv1, hp, hw⟩ := hw.2
  refine r_getP C fl_RX10_15_9 hob hp (fun _ _ _ => rfl) dX10_isSo_2 ?_
  refine r_iload_n C dX10_isSo_5 1 rfl ?_
  refine r_iaload C hw.1 hw.2.1 dX10_isSo_6 ?_
  replace hw := hw.2.2
  refine r_laload C hw.1 hw.2.1 dX10_isSo_7 ?_
  replace hw := hw.2.2
  refine r_topl fun jv2 ejv2 => ?_
  replace hw := hw jv2 ejv2
  refine r_lstore C dX10_isSo_8 [(5, .long jv2), (0, .ref (G.1 + a0)), (1, .int x1), (2, .ref (G.1 + a2)), (3, .long z3)] (by decide) rfl ?_
  refine r_aload_n C dX10_isSo_10 1 rfl ?_
  have hob := hw.1
  obtain ⟨rv3, hp, hw⟩ := hw.2
  refine r_getP C fl_RX10_9_9 hob hp (fun _ _ _ => rfl) dX10_isSo_11 ?_
  refine r_iload_n C dX10_isSo_14 2 rfl ?_
  refine r_iaload C hw.1 hw.2.1 dX10_isSo_15 ?_
  replace hw := hw.2.2
  by_cases hc0 : (aI h rv3 x1.toNatClampNeg) = 0
  · replace hw := hw.1 hc0
    refine r_tableIn C dX10_isSo_16 (by rw [hc0]; decide) (by rw [hc0]; decide) (by rw [hc0]; rfl) 44 (by decide) ?_
    refine r_lload C dX10_isSo_44 0 rfl ?_
    refine r_callS C (As := [.long jv2]) (rest := []) (c_X10_around G h jv2 _ hw) yl_X10_around (gm4 (List.mem_of_getElem? (i := 210) rfl) rfl) (gm4 (List.mem_of_getElem? (i := 211) rfl) rfl) (by decide) rfl (Nat.le_of_ble_eq_true rfl) dX10_isSo_46 rfl (kJ fun hv4 jv5 hw => ?_)
    refine r_aload_n C dX10_isSo_49 3 rfl ?_
    refine r_aload_n C dX10_isSo_50 1 rfl ?_
    have hob := hw.1
    obtain ⟨rv6, hp, hw⟩ := hw.2
    refine r_getP C fl_RX10_18_9 hob hp (fun _ _ _ => rfl) dX10_isSo_51 ?_
    refine r_iload_n C dX10_isSo_54 2 rfl ?_
    refine r_iaload C hw.1 hw.2.1 dX10_isSo_55 ?_
    replace hw := hw.2.2
    refine r_laload C hw.1 hw.2.1 dX10_isSo_56 ?_
    replace hw := hw.2.2
    refine r_land C dX10_isSo_57 ?_
    refine r_lconst (v := 0) C dX10_isSo_58 (by decide) ?_
    refine r_lcmp C dX10_isSo_59 ?_
    refine r_if_eq C dX10_isSo_60 67 (by decide) (fun hc => ?_) (fun hc => ?_)
    · replace hw := hw.1 hc
      refine r_iconst (v := 0) C dX10_isSo_67 (by decide) ?_
      exact r_zret C hr dX10_isSo_68 hw.1 hw.2
    · replace hw := hw.2 hc
      refine r_iconst (v := 1) C dX10_isSo_63 (by decide) ?_
      refine r_goto C dX10_isSo_64 68 (by decide) ?_
      exact r_zret C hr dX10_isSo_68 hw.1 hw.2
  by_cases hc1 : (aI h rv3 x1.toNatClampNeg) = 1
  · replace hw := hw.2.1 hc1
    refine r_tableIn C dX10_isSo_16 (by rw [hc1]; decide) (by rw [hc1]; decide) (by rw [hc1]; rfl) 69 (by decide) ?_
    refine r_lload C dX10_isSo_69 0 rfl ?_
    refine r_callS C (As := [.long jv2]) (rest := []) (c_X10_around G h jv2 _ hw) yl_X10_around (gm4 (List.mem_of_getElem? (i := 210) rfl) rfl) (gm4 (List.mem_of_getElem? (i := 211) rfl) rfl) (by decide) rfl (Nat.le_of_ble_eq_true rfl) dX10_isSo_71 rfl (kJ fun hv7 jv8 hw => ?_)
    refine r_aload_n C dX10_isSo_74 3 rfl ?_
    refine r_aload_n C dX10_isSo_75 1 rfl ?_
    have hob := hw.1
    obtain ⟨rv9, hp, hw⟩ := hw.2
    refine r_getP C fl_RX10_18_9 hob hp (fun _ _ _ => rfl) dX10_isSo_76 ?_
    refine r_iload_n C dX10_isSo_79 2 rfl ?_
    refine r_iaload C hw.1 hw.2.1 dX10_isSo_80 ?_
    replace hw := hw.2.2
    refine r_laload C hw.1 hw.2.1 dX10_isSo_81 ?_
    replace hw := hw.2.2
    refine r_land C dX10_isSo_82 ?_
    refine r_lconst (v := 0) C dX10_isSo_83 (by decide) ?_
    refine r_lcmp C dX10_isSo_84 ?_
    refine r_if_ne C dX10_isSo_85 92 (by decide) (fun hc => ?_) (fun hc => ?_)
    · replace hw := hw.1 hc
      refine r_iconst (v := 0) C dX10_isSo_92 (by decide) ?_
      exact r_zret C hr dX10_isSo_93 hw.1 hw.2
    · replace hw := hw.2 hc
      refine r_iconst (v := 1) C dX10_isSo_88 (by decide) ?_
      refine r_goto C dX10_isSo_89 93 (by decide) ?_
      exact r_zret C hr dX10_isSo_93 hw.1 hw.2
  by_cases hc2 : (aI h rv3 x1.toNatClampNeg) = 2
  · replace hw := hw.2.2.1 hc2
    refine r_tableIn C dX10_isSo_16 (by rw [hc2]; decide) (by rw [hc2]; decide) (by rw [hc2]; rfl) 94 (by decide) ?_
    refine r_lload C dX10_isSo_94 0 rfl ?_
    refine r_aload_n C dX10_isSo_96 1 rfl ?_
    have hob := hw.1
    obtain ⟨rv10, hp, hw⟩ := hw.2
    refine r_getP C fl_RX10_18_9 hob hp (fun _ _ _ => rfl) dX10_isSo_97 ?_
    refine r_iload_n C dX10_isSo_100 2 rfl ?_
    refine r_iaload C hw.1 hw.2.1 dX10_isSo_101 ?_
    replace hw := hw.2.2
    refine r_callS C (As := [.long jv2, .int (aI h rv10 x1.toNatClampNeg)]) (rest := []) (c_X10_shifted G h jv2 (aI h rv10 x1.toNatClampNeg) _ hw) yl_X10_shifted (gm4 (List.mem_of_getElem? (i := 215) rfl) rfl) (gm4 (List.mem_of_getElem? (i := 216) rfl) rfl) (by decide) rfl (Nat.le_of_ble_eq_true rfl) dX10_isSo_102 rfl (kJ fun hv11 jv12 hw => ?_)
    refine r_lload C dX10_isSo_105 0 rfl ?_
    refine r_ldc2 (v := -1) C (gm4 (List.mem_of_getElem? (i := 218) rfl) rfl) dX10_isSo_107 ?_
    refine r_lxor C dX10_isSo_110 ?_
    refine r_land C dX10_isSo_111 ?_
    refine r_lload_n C dX10_isSo_112 4 rfl ?_
    refine r_land C dX10_isSo_113 ?_
    refine r_lconst (v := 0) C dX10_isSo_114 (by decide) ?_
    refine r_lcmp C dX10_isSo_115 ?_
    refine r_if_ne C dX10_isSo_116 123 (by decide) (fun hc => ?_) (fun hc => ?_)
    · replace hw := hw.1 hc
      refine r_iconst (v := 0) C dX10_isSo_123 (by decide) ?_
      exact r_zret C hr dX10_isSo_124 hw.1 hw.2
    · replace hw := hw.2 hc
      refine r_iconst (v := 1) C dX10_isSo_119 (by decide) ?_
      refine r_goto C dX10_isSo_120 124 (by decide) ?_
      exact r_zret C hr dX10_isSo_124 hw.1 hw.2
  have hcd : (aI h rv3 x1.toNatClampNeg).toInt < 0 ∨ 2 < (aI h rv3 x1.toNatClampNeg).toInt := sw_out (aI h rv3 x1.toNatClampNeg) 2 (by decide) (fun k hk => match k, hk with | 0, _ => hc0 | 1, _ => hc1 | 2, _ => hc2 | k + 3, hk => absurd hk (by omega))
  replace hw := hw.2.2.2 hcd
  refine r_tableOut C dX10_isSo_16 hcd 125 (by decide) ?_
  refine r_lload C dX10_isSo_125 0 rfl ?_
  refine r_aload_n C dX10_isSo_127 1 rfl ?_
  have hob := hw.1
  obtain ⟨rv13, hp, hw⟩ := hw.2
  refine r_getP C fl_RX10_18_9 hob hp (fun _ _ _ => rfl) dX10_isSo_128 ?_
  refine r_iload_n C dX10_isSo_131 2 rfl ?_
  refine r_iaload C hw.1 hw.2.1 dX10_isSo_132 ?_
  replace hw := hw.2.2
  refine r_lushr C dX10_isSo_133 ?_
  refine r_lconst (v := 1) C dX10_isSo_134 (by decide) ?_
  refine r_land C dX10_isSo_135 ?_
  refine r_lconst (v := 0) C dX10_isSo_136 (by decide) ?_
  refine r_lcmp C dX10_isSo_137 ?_
  refine r_if_eq C dX10_isSo_138 145 (by decide) (fun hc => ?_) (fun hc => ?_)
  · replace hw := hw.1 hc
    refine r_iconst (v := 0) C dX10_isSo_145 (by decide) ?_
    exact r_zret C hr dX10_isSo_146 hw.1 hw.2
  · replace hw := hw.2 hc
    refine r_iconst (v := 1) C dX10_isSo_141 (by decide) ?_
    refine r_goto C dX10_isSo_142 146 (by decide) ?_
    exact r_zret C hr dX10_isSo_146 hw.1 hw.2
theorem dX10_soBits_0 : decode cX10_soBits 0 = .ok (.iconst 0, 1) := by decide +kernel
theorem dX10_soBits_1 : decode cX10_soBits 1 = .ok (.istore 4, 2) := by decide +kernel
theorem dX10_soBits_3 : decode cX10_soBits 3 = .ok (.iconst 0, 1) := by decide +kernel
theorem dX10_soBits_4 : decode cX10_soBits 4 = .ok (.istore 5, 2) := by decide +kernel
theorem dX10_soBits_6 : decode cX10_soBits 6 = .ok (.iload 5, 2) := by decide +kernel
theorem dX10_soBits_8 : decode cX10_soBits 8 = .ok (.aload_n 0, 1) := by decide +kernel
theorem dX10_soBits_9 : decode cX10_soBits 9 = .ok (.getfield 24, 3) := by decide +kernel
theorem dX10_soBits_12 : decode cX10_soBits 12 = .ok (.if_icmp .ge 29, 3) := by decide +kernel
theorem dX10_soBits_15 : decode cX10_soBits 15 = .ok (.aload_n 0, 1) := by decide +kernel
theorem dX10_soBits_16 : decode cX10_soBits 16 = .ok (.iload 5, 2) := by decide +kernel
theorem dX10_soBits_18 : decode cX10_soBits 18 = .ok (.aload_n 1, 1) := by decide +kernel
theorem dX10_soBits_19 : decode cX10_soBits 19 = .ok (.lload_n 2, 1) := by decide +kernel
theorem dX10_soBits_20 : decode cX10_soBits 20 = .ok (.invokevirtual 34, 3) := by decide +kernel
theorem dX10_soBits_23 : decode cX10_soBits 23 = .ok (.ifCond .eq 12, 3) := by decide +kernel
theorem dX10_soBits_26 : decode cX10_soBits 26 = .ok (.iload 4, 2) := by decide +kernel
theorem dX10_soBits_28 : decode cX10_soBits 28 = .ok (.iconst 1, 1) := by decide +kernel
theorem dX10_soBits_29 : decode cX10_soBits 29 = .ok (.iload 5, 2) := by decide +kernel
theorem dX10_soBits_31 : decode cX10_soBits 31 = .ok (.ishl, 1) := by decide +kernel
theorem dX10_soBits_32 : decode cX10_soBits 32 = .ok (.ior, 1) := by decide +kernel
theorem dX10_soBits_33 : decode cX10_soBits 33 = .ok (.istore 4, 2) := by decide +kernel
theorem dX10_soBits_35 : decode cX10_soBits 35 = .ok (.iinc 5 1, 3) := by decide +kernel
theorem dX10_soBits_38 : decode cX10_soBits 38 = .ok (.goto (-32), 3) := by decide +kernel
theorem dX10_soBits_41 : decode cX10_soBits 41 = .ok (.iload 4, 2) := by decide +kernel
theorem dX10_soBits_43 : decode cX10_soBits 43 = .ok (.ireturn, 1) := by decide +kernel
def wb_X10_soBits_35 (K6 : AH → Nat → Nat → Int64 → Int32 → Int32 → Prop) (h : AH) (al0 : Nat) (al1 : Nat) (zl2 : Int64) (xl4 : Int32) (xl5 : Int32)  (post : AH → Int32 → Prop) : Prop := ∀ iv1 : Int32, iv1 = xl5 + 1 → (K6 h al0 al1 zl2 xl4 iv1)
set_option maxRecDepth 100000 in
theorem tb_X10_soBits_35 {G : GG} {p : Program} {l : Launch} {e : Env} {R : Room} {s : State} {m : MethodId} {args : Array Value} {below : List Frame} {meth : Method} {c : Code} {n0 s0 : Nat} {post : AH → Int32 → Prop} (C : Cx G p R s m args meth c 6 cX10_soBits RX10 n0 s0 2 48) (hr : meth.sig.returnType = (some .int)) {K6 : AH → Nat → Nat → Int64 → Int32 → Int32 → Prop} (hK6 : ∀ (h : AH) (al0 : Nat) (al1 : Nat) (zl2 : Int64) (xl4 : Int32) (xl5 : Int32), K6 h al0 al1 zl2 xl4 xl5 → AW G p l e R s m args below meth c 6 (QM G (pI post) args s below n0 s0) 6 [(0, .ref (G.1 + al0)), (1, .ref (G.1 + al1)), (2, .long zl2), (4, .int xl4), (5, .int xl5)] [] h) {h : AH} {al0 : Nat} {al1 : Nat} {zl2 : Int64} {xl4 : Int32} {xl5 : Int32}  (hw : wb_X10_soBits_35 K6 h al0 al1 zl2 xl4 xl5 post) : AW G p l e R s m args below meth c 6 (QM G (pI post) args s below n0 s0) 35 [(0, .ref (G.1 + al0)), (1, .ref (G.1 + al1)), (2, .long zl2), (4, .int xl4), (5, .int xl5)] [] h := by
  unfold wb_X10_soBits_35 at hw
  obtain ⟨iv1, eiv1⟩ : ∃ q : Int32, q = xl5 + 1 := ⟨_, rfl⟩
  replace hw := hw iv1 eiv1
  refine r_iinc C dX10_soBits_35 4 rfl (by rw [eiv1]; rfl) [(5, .int iv1), (0, .ref (G.1 + al0)), (1, .ref (G.1 + al1)), (2, .long zl2), (4, .int xl4)] (by decide) rfl ?_
  refine r_goto C dX10_soBits_38 6 (by decide) ?_
  refine r_sub [1, 2, 3, 4, 0] rfl ?_
  exact hK6 _ _ _ _ _ _ hw
def wb_X10_soBits_6 (K6 : AH → Nat → Nat → Int64 → Int32 → Int32 → Prop) (h : AH) (al0 : Nat) (al1 : Nat) (zl2 : Int64) (xl4 : Int32) (xl5 : Int32)  (post : AH → Int32 → Prop) : Prop := (ob h al0 9) ∧ (((aI h al0 0) ≤ xl5 → (post h xl4)) ∧ (¬ (aI h al0 0) ≤ xl5 → ((ob h al0 9) ∧ wp_X10_isSo h al0 xl5 al1 zl2 (fun hv1 iv2 => (iv2 = 0 → (wb_X10_soBits_35 K6 hv1 al0 al1 zl2 xl4 xl5 post)) ∧ (¬ iv2 = 0 → (∀ iv3 : Int32, iv3 = xl4 ||| ((1 : Int32) <<< (xl5 &&& 31)) → (wb_X10_soBits_35 K6 hv1 al0 al1 zl2 iv3 xl5 post)))))))
set_option maxRecDepth 100000 in
theorem tb_X10_soBits_6 {G : GG} {p : Program} {l : Launch} {e : Env} {R : Room} {s : State} {m : MethodId} {args : Array Value} {below : List Frame} {meth : Method} {c : Code} {n0 s0 : Nat} {post : AH → Int32 → Prop} (C : Cx G p R s m args meth c 6 cX10_soBits RX10 n0 s0 2 48) (hr : meth.sig.returnType = (some .int)) {K6 : AH → Nat → Nat → Int64 → Int32 → Int32 → Prop} (hK6 : ∀ (h : AH) (al0 : Nat) (al1 : Nat) (zl2 : Int64) (xl4 : Int32) (xl5 : Int32), K6 h al0 al1 zl2 xl4 xl5 → AW G p l e R s m args below meth c 6 (QM G (pI post) args s below n0 s0) 6 [(0, .ref (G.1 + al0)), (1, .ref (G.1 + al1)), (2, .long zl2), (4, .int xl4), (5, .int xl5)] [] h) {h : AH} {al0 : Nat} {al1 : Nat} {zl2 : Int64} {xl4 : Int32} {xl5 : Int32}  (hw : wb_X10_soBits_6 K6 h al0 al1 zl2 xl4 xl5 post) : AW G p l e R s m args below meth c 6 (QM G (pI post) args s below n0 s0) 6 [(0, .ref (G.1 + al0)), (1, .ref (G.1 + al1)), (2, .long zl2), (4, .int xl4), (5, .int xl5)] [] h := by
  unfold wb_X10_soBits_6 at hw
  refine r_iload C dX10_soBits_6 4 rfl ?_
  refine r_aload_n C dX10_soBits_8 0 rfl ?_
  refine r_getI C fl_RX10_24_9 hw.1 (fun _ _ _ => rfl) dX10_soBits_9 ?_
  replace hw := hw.2
  refine r_icmp_ge C dX10_soBits_12 41 (by decide) (fun hc => ?_) (fun hc => ?_)
  · replace hw := hw.1 hc
    refine r_iload C dX10_soBits_41 3 rfl ?_
    exact r_iret C hr dX10_soBits_43 hw
  · replace hw := hw.2 hc
    refine r_aload_n C dX10_soBits_15 0 rfl ?_
    refine r_iload C dX10_soBits_16 4 rfl ?_
    refine r_aload_n C dX10_soBits_18 1 rfl ?_
    refine r_lload_n C dX10_soBits_19 2 rfl ?_
    have hob := hw.1
    replace hw := hw.2
    refine r_callV C (As := [.int xl5, .ref (G.1 + al1), .long zl2]) (rest := []) (c_X10_isSo G h al0 xl5 al1 zl2 _ hw) yl_X10_isSo (gm4 (List.mem_of_getElem? (i := 206) rfl) rfl) (gm4 (List.mem_of_getElem? (i := 208) rfl) rfl) (ci := 9) rfl (by decide) (gsel (List.mem_of_getElem? (i := 18) rfl)) hob (by decide) rfl (Nat.le_of_ble_eq_true rfl) dX10_soBits_20 rfl (kI fun hv1 iv2 hw => ?_)
    refine r_if_eq C dX10_soBits_23 35 (by decide) (fun hc => ?_) (fun hc => ?_)
    · replace hw := hw.1 hc
      refine r_sub [0, 1, 2, 3, 4] rfl ?_
      exact tb_X10_soBits_35 C hr hK6 hw
    · replace hw := hw.2 hc
      refine r_iload C dX10_soBits_26 3 rfl ?_
      refine r_iconst (v := 1) C dX10_soBits_28 (by decide) ?_
      refine r_iload C dX10_soBits_29 4 rfl ?_
      refine r_ishl C dX10_soBits_31 ?_
      refine r_ior C dX10_soBits_32 ?_
      refine r_topi fun iv3 eiv3 => ?_
      replace hw := hw iv3 eiv3
      refine r_istore C dX10_soBits_33 [(4, .int iv3), (0, .ref (G.1 + al0)), (1, .ref (G.1 + al1)), (2, .long zl2), (5, .int xl5)] (by decide) rfl ?_
      refine r_sub [1, 2, 3, 0, 4] rfl ?_
      exact tb_X10_soBits_35 C hr hK6 hw
def wl_X10_soBits_6  (post : AH → Int32 → Prop) : Nat → AH → Nat → Nat → Int64 → Int32 → Int32 → Prop
  | 0 => fun _ _ _ _ _ _ => False
  | n + 1 => fun h al0 al1 zl2 xl4 xl5 => wb_X10_soBits_6  (wl_X10_soBits_6  post n) h al0 al1 zl2 xl4 xl5 post
theorem tl_X10_soBits_6 {G : GG} {p : Program} {l : Launch} {e : Env} {R : Room} {s : State} {m : MethodId} {args : Array Value} {below : List Frame} {meth : Method} {c : Code} {n0 s0 : Nat} {post : AH → Int32 → Prop} (C : Cx G p R s m args meth c 6 cX10_soBits RX10 n0 s0 2 48) (hr : meth.sig.returnType = (some .int))   : ∀ (n : Nat) (h : AH) (al0 : Nat) (al1 : Nat) (zl2 : Int64) (xl4 : Int32) (xl5 : Int32), wl_X10_soBits_6  post n h al0 al1 zl2 xl4 xl5 → AW G p l e R s m args below meth c 6 (QM G (pI post) args s below n0 s0) 6 [(0, .ref (G.1 + al0)), (1, .ref (G.1 + al1)), (2, .long zl2), (4, .int xl4), (5, .int xl5)] [] h := by
  intro n
  induction n with
  | zero => intro h al0 al1 zl2 xl4 xl5 hw; exact hw.elim
  | succ n ih => intro h al0 al1 zl2 xl4 xl5 hw; exact tb_X10_soBits_6 C hr  ih hw
def wp_X10_soBits (h : AH) (a0 : Nat) (a1 : Nat) (z2 : Int64) (post : AH → Int32 → Prop) : Prop := ∃ n, wl_X10_soBits_6  post n h a0 a1 z2 0 0
set_option maxRecDepth 100000 in
theorem c_X10_soBits (G : GG) (h : AH) (a0 : Nat) (a1 : Nat) (z2 : Int64) (post : AH → Int32 → Prop) (hw : wp_X10_soBits h a0 a1 z2 post) : MC G yX10_soBits cX10_soBits 6 (some .int) 2 48 h [.ref (G.1 + a0), .ref (G.1 + a1), .long z2] (pI post) := by
  refine MC.of (lv := [(0, .ref (G.1 + a0)), (1, .ref (G.1 + a1)), (2, .long z2)]) (by decide) (Nat.le_of_ble_eq_true rfl) rfl fun p l e R s m args below meth c C hr hnm => ?_
  unfold wp_X10_soBits at hw
  refine r_iconst (v := 0) C dX10_soBits_0 (by decide) ?_
  refine r_istore C dX10_soBits_1 [(4, .int 0), (0, .ref (G.1 + a0)), (1, .ref (G.1 + a1)), (2, .long z2)] (by decide) rfl ?_
  refine r_iconst (v := 0) C dX10_soBits_3 (by decide) ?_
  refine r_istore C dX10_soBits_4 [(5, .int 0), (4, .int 0), (0, .ref (G.1 + a0)), (1, .ref (G.1 + a1)), (2, .long z2)] (by decide) rfl ?_
  refine r_sub [2, 3, 4, 1, 0] rfl ?_
  obtain ⟨n, hw⟩ := hw
  exact tl_X10_soBits_6 C hr  n _ _ _ _ _ _ hw
theorem dX0_weighTwo_0 : decode cX0_weighTwo 0 = .ok (.aload_n 0, 1) := by decide +kernel
theorem dX0_weighTwo_1 : decode cX0_weighTwo 1 = .ok (.getfield 37, 3) := by decide +kernel
theorem dX0_weighTwo_4 : decode cX0_weighTwo 4 = .ok (.getfield 95, 3) := by decide +kernel
theorem dX0_weighTwo_7 : decode cX0_weighTwo 7 = .ok (.iload_n 1, 1) := by decide +kernel
theorem dX0_weighTwo_8 : decode cX0_weighTwo 8 = .ok (.iload_n 2, 1) := by decide +kernel
theorem dX0_weighTwo_9 : decode cX0_weighTwo 9 = .ok (.invokevirtual 99, 3) := by decide +kernel
theorem dX0_weighTwo_12 : decode cX0_weighTwo 12 = .ok (.istore_n 3, 1) := by decide +kernel
theorem dX0_weighTwo_13 : decode cX0_weighTwo 13 = .ok (.aload_n 0, 1) := by decide +kernel
theorem dX0_weighTwo_14 : decode cX0_weighTwo 14 = .ok (.getfield 34, 3) := by decide +kernel
theorem dX0_weighTwo_17 : decode cX0_weighTwo 17 = .ok (.lconst 0, 1) := by decide +kernel
theorem dX0_weighTwo_18 : decode cX0_weighTwo 18 = .ok (.invokestatic 68, 3) := by decide +kernel
theorem dX0_weighTwo_21 : decode cX0_weighTwo 21 = .ok (.iconst 0, 1) := by decide +kernel
theorem dX0_weighTwo_22 : decode cX0_weighTwo 22 = .ok (.istore 4, 2) := by decide +kernel
theorem dX0_weighTwo_24 : decode cX0_weighTwo 24 = .ok (.iload 4, 2) := by decide +kernel
theorem dX0_weighTwo_26 : decode cX0_weighTwo 26 = .ok (.aload_n 0, 1) := by decide +kernel
theorem dX0_weighTwo_27 : decode cX0_weighTwo 27 = .ok (.getfield 11, 3) := by decide +kernel
theorem dX0_weighTwo_30 : decode cX0_weighTwo 30 = .ok (.iload_n 1, 1) := by decide +kernel
theorem dX0_weighTwo_31 : decode cX0_weighTwo 31 = .ok (.iaload, 1) := by decide +kernel
theorem dX0_weighTwo_32 : decode cX0_weighTwo 32 = .ok (.if_icmp .ge 122, 3) := by decide +kernel
theorem dX0_weighTwo_35 : decode cX0_weighTwo 35 = .ok (.aload_n 0, 1) := by decide +kernel
theorem dX0_weighTwo_36 : decode cX0_weighTwo 36 = .ok (.getfield 34, 3) := by decide +kernel
theorem dX0_weighTwo_39 : decode cX0_weighTwo 39 = .ok (.iload_n 1, 1) := by decide +kernel
theorem dX0_weighTwo_40 : decode cX0_weighTwo 40 = .ok (.aload_n 0, 1) := by decide +kernel
theorem dX0_weighTwo_41 : decode cX0_weighTwo 41 = .ok (.getfield 18, 3) := by decide +kernel
theorem dX0_weighTwo_44 : decode cX0_weighTwo 44 = .ok (.iload_n 1, 1) := by decide +kernel
theorem dX0_weighTwo_45 : decode cX0_weighTwo 45 = .ok (.bipush 40, 2) := by decide +kernel
theorem dX0_weighTwo_47 : decode cX0_weighTwo 47 = .ok (.imul, 1) := by decide +kernel
theorem dX0_weighTwo_48 : decode cX0_weighTwo 48 = .ok (.iload 4, 2) := by decide +kernel
theorem dX0_weighTwo_50 : decode cX0_weighTwo 50 = .ok (.iadd, 1) := by decide +kernel
theorem dX0_weighTwo_51 : decode cX0_weighTwo 51 = .ok (.laload, 1) := by decide +kernel
theorem dX0_weighTwo_52 : decode cX0_weighTwo 52 = .ok (.lastore, 1) := by decide +kernel
theorem dX0_weighTwo_53 : decode cX0_weighTwo 53 = .ok (.iconst 0, 1) := by decide +kernel
theorem dX0_weighTwo_54 : decode cX0_weighTwo 54 = .ok (.istore 5, 2) := by decide +kernel
theorem dX0_weighTwo_56 : decode cX0_weighTwo 56 = .ok (.iload 5, 2) := by decide +kernel
theorem dX0_weighTwo_58 : decode cX0_weighTwo 58 = .ok (.aload_n 0, 1) := by decide +kernel
theorem dX0_weighTwo_59 : decode cX0_weighTwo 59 = .ok (.getfield 11, 3) := by decide +kernel
theorem dX0_weighTwo_62 : decode cX0_weighTwo 62 = .ok (.iload_n 2, 1) := by decide +kernel
theorem dX0_weighTwo_63 : decode cX0_weighTwo 63 = .ok (.iaload, 1) := by decide +kernel
theorem dX0_weighTwo_64 : decode cX0_weighTwo 64 = .ok (.if_icmp .ge 84, 3) := by decide +kernel
theorem dX0_weighTwo_67 : decode cX0_weighTwo 67 = .ok (.aload_n 0, 1) := by decide +kernel
theorem dX0_weighTwo_68 : decode cX0_weighTwo 68 = .ok (.getfield 34, 3) := by decide +kernel
theorem dX0_weighTwo_71 : decode cX0_weighTwo 71 = .ok (.iload_n 2, 1) := by decide +kernel
theorem dX0_weighTwo_72 : decode cX0_weighTwo 72 = .ok (.aload_n 0, 1) := by decide +kernel
theorem dX0_weighTwo_73 : decode cX0_weighTwo 73 = .ok (.getfield 18, 3) := by decide +kernel
theorem dX0_weighTwo_76 : decode cX0_weighTwo 76 = .ok (.iload_n 2, 1) := by decide +kernel
theorem dX0_weighTwo_77 : decode cX0_weighTwo 77 = .ok (.bipush 40, 2) := by decide +kernel
theorem dX0_weighTwo_79 : decode cX0_weighTwo 79 = .ok (.imul, 1) := by decide +kernel
theorem dX0_weighTwo_80 : decode cX0_weighTwo 80 = .ok (.iload 5, 2) := by decide +kernel
theorem dX0_weighTwo_82 : decode cX0_weighTwo 82 = .ok (.iadd, 1) := by decide +kernel
theorem dX0_weighTwo_83 : decode cX0_weighTwo 83 = .ok (.laload, 1) := by decide +kernel
theorem dX0_weighTwo_84 : decode cX0_weighTwo 84 = .ok (.lastore, 1) := by decide +kernel
theorem dX0_weighTwo_85 : decode cX0_weighTwo 85 = .ok (.aload_n 0, 1) := by decide +kernel
theorem dX0_weighTwo_86 : decode cX0_weighTwo 86 = .ok (.getfield 37, 3) := by decide +kernel
theorem dX0_weighTwo_89 : decode cX0_weighTwo 89 = .ok (.getfield 95, 3) := by decide +kernel
theorem dX0_weighTwo_92 : decode cX0_weighTwo 92 = .ok (.aload_n 0, 1) := by decide +kernel
theorem dX0_weighTwo_93 : decode cX0_weighTwo 93 = .ok (.getfield 34, 3) := by decide +kernel
theorem dX0_weighTwo_96 : decode cX0_weighTwo 96 = .ok (.aload_n 0, 1) := by decide +kernel
theorem dX0_weighTwo_97 : decode cX0_weighTwo 97 = .ok (.getfield 34, 3) := by decide +kernel
theorem dX0_weighTwo_100 : decode cX0_weighTwo 100 = .ok (.iload_n 1, 1) := by decide +kernel
theorem dX0_weighTwo_101 : decode cX0_weighTwo 101 = .ok (.laload, 1) := by decide +kernel
theorem dX0_weighTwo_102 : decode cX0_weighTwo 102 = .ok (.aload_n 0, 1) := by decide +kernel
theorem dX0_weighTwo_103 : decode cX0_weighTwo 103 = .ok (.getfield 34, 3) := by decide +kernel
theorem dX0_weighTwo_106 : decode cX0_weighTwo 106 = .ok (.iload_n 2, 1) := by decide +kernel
theorem dX0_weighTwo_107 : decode cX0_weighTwo 107 = .ok (.laload, 1) := by decide +kernel
theorem dX0_weighTwo_108 : decode cX0_weighTwo 108 = .ok (.lor, 1) := by decide +kernel
theorem dX0_weighTwo_109 : decode cX0_weighTwo 109 = .ok (.invokevirtual 104, 3) := by decide +kernel
theorem dX0_weighTwo_112 : decode cX0_weighTwo 112 = .ok (.istore 6, 2) := by decide +kernel
theorem dX0_weighTwo_114 : decode cX0_weighTwo 114 = .ok (.aload_n 0, 1) := by decide +kernel
theorem dX0_weighTwo_115 : decode cX0_weighTwo 115 = .ok (.getfield 31, 3) := by decide +kernel
theorem dX0_weighTwo_118 : decode cX0_weighTwo 118 = .ok (.iload_n 1, 1) := by decide +kernel
theorem dX0_weighTwo_119 : decode cX0_weighTwo 119 = .ok (.iload_n 2, 1) := by decide +kernel
theorem dX0_weighTwo_120 : decode cX0_weighTwo 120 = .ok (.iadd, 1) := by decide +kernel
theorem dX0_weighTwo_121 : decode cX0_weighTwo 121 = .ok (.iconst 1, 1) := by decide +kernel
theorem dX0_weighTwo_122 : decode cX0_weighTwo 122 = .ok (.isub, 1) := by decide +kernel
theorem dX0_weighTwo_123 : decode cX0_weighTwo 123 = .ok (.bipush 40, 2) := by decide +kernel
theorem dX0_weighTwo_125 : decode cX0_weighTwo 125 = .ok (.imul, 1) := by decide +kernel
theorem dX0_weighTwo_126 : decode cX0_weighTwo 126 = .ok (.iload 4, 2) := by decide +kernel
theorem dX0_weighTwo_128 : decode cX0_weighTwo 128 = .ok (.iadd, 1) := by decide +kernel
theorem dX0_weighTwo_129 : decode cX0_weighTwo 129 = .ok (.bipush 40, 2) := by decide +kernel
theorem dX0_weighTwo_131 : decode cX0_weighTwo 131 = .ok (.imul, 1) := by decide +kernel
theorem dX0_weighTwo_132 : decode cX0_weighTwo 132 = .ok (.iload 5, 2) := by decide +kernel
theorem dX0_weighTwo_134 : decode cX0_weighTwo 134 = .ok (.iadd, 1) := by decide +kernel
theorem dX0_weighTwo_135 : decode cX0_weighTwo 135 = .ok (.iload_n 3, 1) := by decide +kernel
theorem dX0_weighTwo_136 : decode cX0_weighTwo 136 = .ok (.iload 6, 2) := by decide +kernel
theorem dX0_weighTwo_138 : decode cX0_weighTwo 138 = .ok (.iconst (-1), 1) := by decide +kernel
theorem dX0_weighTwo_139 : decode cX0_weighTwo 139 = .ok (.ixor, 1) := by decide +kernel
theorem dX0_weighTwo_140 : decode cX0_weighTwo 140 = .ok (.iand, 1) := by decide +kernel
theorem dX0_weighTwo_141 : decode cX0_weighTwo 141 = .ok (.iastore, 1) := by decide +kernel
theorem dX0_weighTwo_142 : decode cX0_weighTwo 142 = .ok (.iinc 5 1, 3) := by decide +kernel
theorem dX0_weighTwo_145 : decode cX0_weighTwo 145 = .ok (.goto (-89), 3) := by decide +kernel
theorem dX0_weighTwo_148 : decode cX0_weighTwo 148 = .ok (.iinc 4 1, 3) := by decide +kernel
theorem dX0_weighTwo_151 : decode cX0_weighTwo 151 = .ok (.goto (-127), 3) := by decide +kernel
theorem dX0_weighTwo_154 : decode cX0_weighTwo 154 = .ok (.return_, 1) := by decide +kernel
def wb_X0_weighTwo_56 (K24 : AH → Nat → Int32 → Int32 → Int32 → Int32 → Prop) (K56 : AH → Nat → Int32 → Int32 → Int32 → Int32 → Int32 → Prop) (h : AH) (al0 : Nat) (xl1 : Int32) (xl2 : Int32) (xl3 : Int32) (xl4 : Int32) (xl5 : Int32)  (post : AH → Prop) : Prop := (ob h al0 0) ∧ (∃ rv1, aP h al0 1 = some rv1 ∧ ((ob h rv1 13) ∧ ((vp_in xl2 (aL h rv1)) ∧ (((aI h rv1 xl2.toNatClampNeg) ≤ xl5 → (∀ iv2 : Int32, iv2 = xl4 + 1 → (K24 h al0 xl1 xl2 xl3 iv2))) ∧ (¬ (aI h rv1 xl2.toNatClampNeg) ≤ xl5 → ((ob h al0 0) ∧ (∃ rv3, aP h al0 8 = some rv3 ∧ ((ob h al0 0) ∧ (∃ rv4, aP h al0 3 = some rv4 ∧ ((ob h rv4 14) ∧ ((vp_in ((xl2 * (40 : Int32)) + xl5) (aL h rv4)) ∧ ((ob h rv3 14) ∧ ((vp_in xl2 (aL h rv3)) ∧ (∀ hv5 : AH, hv5 = hJ h rv3 xl2.toNatClampNeg (aJ h rv4 ((xl2 * (40 : Int32)) + xl5).toNatClampNeg) → ((ob hv5 al0 0) ∧ (∃ rv6, aP hv5 al0 0 = some rv6 ∧ ((ob hv5 rv6 1) ∧ (∃ rv7, aP hv5 rv6 15 = some rv7 ∧ ((ob hv5 al0 0) ∧ (∃ rv8, aP hv5 al0 8 = some rv8 ∧ ((ob hv5 al0 0) ∧ (∃ rv9, aP hv5 al0 8 = some rv9 ∧ ((ob hv5 rv9 14) ∧ ((vp_in xl1 (aL hv5 rv9)) ∧ ((ob hv5 al0 0) ∧ (∃ rv10, aP hv5 al0 8 = some rv10 ∧ ((ob hv5 rv10 14) ∧ ((vp_in xl2 (aL hv5 rv10)) ∧ ((ob hv5 rv7 9) ∧ wp_X10_soBits hv5 rv7 rv8 ((aJ hv5 rv9 xl1.toNatClampNeg) ||| (aJ hv5 rv10 xl2.toNatClampNeg)) (fun hv11 iv12 => (ob hv11 al0 0) ∧ (∃ rv13, aP hv11 al0 7 = some rv13 ∧ ((ob hv11 rv13 13) ∧ ((vp_in ((((((xl1 + xl2) - (1 : Int32)) * (40 : Int32)) + xl4) * (40 : Int32)) + xl5) (aL hv11 rv13)) ∧ (∀ hv14 : AH, hv14 = hI hv11 rv13 ((((((xl1 + xl2) - (1 : Int32)) * (40 : Int32)) + xl4) * (40 : Int32)) + xl5).toNatClampNeg (xl3 &&& (iv12 ^^^ (-1 : Int32))) → (∀ iv15 : Int32, iv15 = xl5 + 1 → (K56 hv14 al0 xl1 xl2 xl3 xl4 iv15))))))))))))))))))))))))))))))))))))
set_option maxRecDepth 100000 in
theorem tb_X0_weighTwo_56 {G : GG} {p : Program} {l : Launch} {e : Env} {R : Room} {s : State} {m : MethodId} {args : Array Value} {below : List Frame} {meth : Method} {c : Code} {n0 s0 : Nat} {post : AH → Prop} (C : Cx G p R s m args meth c 7 cX0_weighTwo RX0 n0 s0 3 73) (hr : meth.sig.returnType = none) {K24 : AH → Nat → Int32 → Int32 → Int32 → Int32 → Prop} {K56 : AH → Nat → Int32 → Int32 → Int32 → Int32 → Int32 → Prop} (hK24 : ∀ (h : AH) (al0 : Nat) (xl1 : Int32) (xl2 : Int32) (xl3 : Int32) (xl4 : Int32), K24 h al0 xl1 xl2 xl3 xl4 → AW G p l e R s m args below meth c 7 (QM G (pV post) args s below n0 s0) 24 [(0, .ref (G.1 + al0)), (1, .int xl1), (2, .int xl2), (3, .int xl3), (4, .int xl4)] [] h) (hK56 : ∀ (h : AH) (al0 : Nat) (xl1 : Int32) (xl2 : Int32) (xl3 : Int32) (xl4 : Int32) (xl5 : Int32), K56 h al0 xl1 xl2 xl3 xl4 xl5 → AW G p l e R s m args below meth c 7 (QM G (pV post) args s below n0 s0) 56 [(0, .ref (G.1 + al0)), (1, .int xl1), (2, .int xl2), (3, .int xl3), (4, .int xl4), (5, .int xl5)] [] h) {h : AH} {al0 : Nat} {xl1 : Int32} {xl2 : Int32} {xl3 : Int32} {xl4 : Int32} {xl5 : Int32}  (hw : wb_X0_weighTwo_56 K24 K56 h al0 xl1 xl2 xl3 xl4 xl5 post) : AW G p l e R s m args below meth c 7 (QM G (pV post) args s below n0 s0) 56 [(0, .ref (G.1 + al0)), (1, .int xl1), (2, .int xl2), (3, .int xl3), (4, .int xl4), (5, .int xl5)] [] h := by
  unfold wb_X0_weighTwo_56 at hw
  refine r_iload C dX0_weighTwo_56 5 rfl ?_
  refine r_aload_n C dX0_weighTwo_58 0 rfl ?_
  have hob := hw.1
  obtain ⟨rv1, hp, hw⟩ := hw.2
  refine r_getP C fl_RX0_11_0 hob hp (fun _ _ _ => rfl) dX0_weighTwo_59 ?_
  refine r_iload_n C dX0_weighTwo_62 2 rfl ?_
  refine r_iaload C hw.1 hw.2.1 dX0_weighTwo_63 ?_
  replace hw := hw.2.2
  refine r_icmp_ge C dX0_weighTwo_64 148 (by decide) (fun hc => ?_) (fun hc => ?_)
  · replace hw := hw.1 hc
    obtain ⟨iv2, eiv2⟩ : ∃ q : Int32, q = xl4 + 1 := ⟨_, rfl⟩
    replace hw := hw iv2 eiv2
    refine r_iinc C dX0_weighTwo_148 4 rfl (by rw [eiv2]; rfl) [(4, .int iv2), (0, .ref (G.1 + al0)), (1, .int xl1), (2, .int xl2), (3, .int xl3), (5, .int xl5)] (by decide) rfl ?_
    refine r_goto C dX0_weighTwo_151 24 (by decide) ?_
    refine r_sub [1, 2, 3, 4, 0] rfl ?_
    exact hK24 _ _ _ _ _ _ hw
  · replace hw := hw.2 hc
    refine r_aload_n C dX0_weighTwo_67 0 rfl ?_
    have hob := hw.1
    obtain ⟨rv3, hp, hw⟩ := hw.2
    refine r_getP C fl_RX0_34_0 hob hp (fun _ _ _ => rfl) dX0_weighTwo_68 ?_
    refine r_iload_n C dX0_weighTwo_71 2 rfl ?_
    refine r_aload_n C dX0_weighTwo_72 0 rfl ?_
    have hob := hw.1
    obtain ⟨rv4, hp, hw⟩ := hw.2
    refine r_getP C fl_RX0_18_0 hob hp (fun _ _ _ => rfl) dX0_weighTwo_73 ?_
    refine r_iload_n C dX0_weighTwo_76 2 rfl ?_
    refine r_bipush (v := 40) C dX0_weighTwo_77 (by decide) ?_
    refine r_imul C dX0_weighTwo_79 ?_
    refine r_iload C dX0_weighTwo_80 5 rfl ?_
    refine r_iadd C dX0_weighTwo_82 ?_
    refine r_laload C hw.1 hw.2.1 dX0_weighTwo_83 ?_
    replace hw := hw.2.2
    refine r_lastore C hw.1 hw.2.1 dX0_weighTwo_84 ?_
    replace hw := hw.2.2
    refine r_toph fun hv5 ehv5 => ?_
    replace hw := hw hv5 ehv5
    refine r_aload_n C dX0_weighTwo_85 0 rfl ?_
    have hob := hw.1
    obtain ⟨rv6, hp, hw⟩ := hw.2
    refine r_getP C fl_RX0_37_0 hob hp (fun _ _ _ => rfl) dX0_weighTwo_86 ?_
    have hob := hw.1
    obtain ⟨rv7, hp, hw⟩ := hw.2
    refine r_getP C fl_RX0_95_1 hob hp (fun _ _ _ => rfl) dX0_weighTwo_89 ?_
    refine r_aload_n C dX0_weighTwo_92 0 rfl ?_
    have hob := hw.1
    obtain ⟨rv8, hp, hw⟩ := hw.2
    refine r_getP C fl_RX0_34_0 hob hp (fun _ _ _ => rfl) dX0_weighTwo_93 ?_
    refine r_aload_n C dX0_weighTwo_96 0 rfl ?_
    have hob := hw.1
    obtain ⟨rv9, hp, hw⟩ := hw.2
    refine r_getP C fl_RX0_34_0 hob hp (fun _ _ _ => rfl) dX0_weighTwo_97 ?_
    refine r_iload_n C dX0_weighTwo_100 1 rfl ?_
    refine r_laload C hw.1 hw.2.1 dX0_weighTwo_101 ?_
    replace hw := hw.2.2
    refine r_aload_n C dX0_weighTwo_102 0 rfl ?_
    have hob := hw.1
    obtain ⟨rv10, hp, hw⟩ := hw.2
    refine r_getP C fl_RX0_34_0 hob hp (fun _ _ _ => rfl) dX0_weighTwo_103 ?_
    refine r_iload_n C dX0_weighTwo_106 2 rfl ?_
    refine r_laload C hw.1 hw.2.1 dX0_weighTwo_107 ?_
    replace hw := hw.2.2
    refine r_lor C dX0_weighTwo_108 ?_
    have hob := hw.1
    replace hw := hw.2
    refine r_callV C (As := [.ref (G.1 + rv8), .long ((aJ hv5 rv9 xl1.toNatClampNeg) ||| (aJ hv5 rv10 xl2.toNatClampNeg))]) (rest := []) (c_X10_soBits G hv5 rv7 rv8 ((aJ hv5 rv9 xl1.toNatClampNeg) ||| (aJ hv5 rv10 xl2.toNatClampNeg)) _ hw) yl_X10_soBits (gm5 (List.mem_of_getElem? (i := 228) rfl) rfl) (gm4 (List.mem_of_getElem? (i := 203) rfl) rfl) (ci := 9) rfl (by decide) (gm4 (List.mem_of_getElem? (i := 204) rfl) rfl) hob (by decide) rfl (Nat.le_of_ble_eq_true rfl) dX0_weighTwo_109 rfl (kI fun hv11 iv12 hw => ?_)
    refine r_istore C dX0_weighTwo_112 [(6, .int iv12), (0, .ref (G.1 + al0)), (1, .int xl1), (2, .int xl2), (3, .int xl3), (4, .int xl4), (5, .int xl5)] (by decide) rfl ?_
    refine r_aload_n C dX0_weighTwo_114 1 rfl ?_
    have hob := hw.1
    obtain ⟨rv13, hp, hw⟩ := hw.2
    refine r_getP C fl_RX0_31_0 hob hp (fun _ _ _ => rfl) dX0_weighTwo_115 ?_
    refine r_iload_n C dX0_weighTwo_118 2 rfl ?_
    refine r_iload_n C dX0_weighTwo_119 3 rfl ?_
    refine r_iadd C dX0_weighTwo_120 ?_
    refine r_iconst (v := 1) C dX0_weighTwo_121 (by decide) ?_
    refine r_isub C dX0_weighTwo_122 ?_
    refine r_bipush (v := 40) C dX0_weighTwo_123 (by decide) ?_
    refine r_imul C dX0_weighTwo_125 ?_
    refine r_iload C dX0_weighTwo_126 5 rfl ?_
    refine r_iadd C dX0_weighTwo_128 ?_
    refine r_bipush (v := 40) C dX0_weighTwo_129 (by decide) ?_
    refine r_imul C dX0_weighTwo_131 ?_
    refine r_iload C dX0_weighTwo_132 6 rfl ?_
    refine r_iadd C dX0_weighTwo_134 ?_
    refine r_iload_n C dX0_weighTwo_135 4 rfl ?_
    refine r_iload C dX0_weighTwo_136 0 rfl ?_
    refine r_iconst (v := (-1)) C dX0_weighTwo_138 (by decide) ?_
    refine r_ixor C dX0_weighTwo_139 ?_
    refine r_iand C dX0_weighTwo_140 ?_
    refine r_iastore C hw.1 hw.2.1 dX0_weighTwo_141 ?_
    replace hw := hw.2.2
    refine r_toph fun hv14 ehv14 => ?_
    replace hw := hw hv14 ehv14
    obtain ⟨iv15, eiv15⟩ : ∃ q : Int32, q = xl5 + 1 := ⟨_, rfl⟩
    replace hw := hw iv15 eiv15
    refine r_iinc C dX0_weighTwo_142 6 rfl (by rw [eiv15]; rfl) [(5, .int iv15), (6, .int iv12), (0, .ref (G.1 + al0)), (1, .int xl1), (2, .int xl2), (3, .int xl3), (4, .int xl4)] (by decide) rfl ?_
    refine r_goto C dX0_weighTwo_145 56 (by decide) ?_
    refine r_sub [2, 3, 4, 5, 6, 0] rfl ?_
    exact hK56 _ _ _ _ _ _ _ hw
def wl_X0_weighTwo_56 (K24 : AH → Nat → Int32 → Int32 → Int32 → Int32 → Prop) (post : AH → Prop) : Nat → AH → Nat → Int32 → Int32 → Int32 → Int32 → Int32 → Prop
  | 0 => fun _ _ _ _ _ _ _ => False
  | n + 1 => fun h al0 xl1 xl2 xl3 xl4 xl5 => wb_X0_weighTwo_56 K24 (wl_X0_weighTwo_56 K24 post n) h al0 xl1 xl2 xl3 xl4 xl5 post
theorem tl_X0_weighTwo_56 {G : GG} {p : Program} {l : Launch} {e : Env} {R : Room} {s : State} {m : MethodId} {args : Array Value} {below : List Frame} {meth : Method} {c : Code} {n0 s0 : Nat} {post : AH → Prop} (C : Cx G p R s m args meth c 7 cX0_weighTwo RX0 n0 s0 3 73) (hr : meth.sig.returnType = none) {K24 : AH → Nat → Int32 → Int32 → Int32 → Int32 → Prop} (hK24 : ∀ (h : AH) (al0 : Nat) (xl1 : Int32) (xl2 : Int32) (xl3 : Int32) (xl4 : Int32), K24 h al0 xl1 xl2 xl3 xl4 → AW G p l e R s m args below meth c 7 (QM G (pV post) args s below n0 s0) 24 [(0, .ref (G.1 + al0)), (1, .int xl1), (2, .int xl2), (3, .int xl3), (4, .int xl4)] [] h) : ∀ (n : Nat) (h : AH) (al0 : Nat) (xl1 : Int32) (xl2 : Int32) (xl3 : Int32) (xl4 : Int32) (xl5 : Int32), wl_X0_weighTwo_56 K24 post n h al0 xl1 xl2 xl3 xl4 xl5 → AW G p l e R s m args below meth c 7 (QM G (pV post) args s below n0 s0) 56 [(0, .ref (G.1 + al0)), (1, .int xl1), (2, .int xl2), (3, .int xl3), (4, .int xl4), (5, .int xl5)] [] h := by
  intro n
  induction n with
  | zero => intro h al0 xl1 xl2 xl3 xl4 xl5 hw; exact hw.elim
  | succ n ih => intro h al0 xl1 xl2 xl3 xl4 xl5 hw; exact tb_X0_weighTwo_56 C hr hK24 ih hw
def wb_X0_weighTwo_24 (K24 : AH → Nat → Int32 → Int32 → Int32 → Int32 → Prop) (h : AH) (al0 : Nat) (xl1 : Int32) (xl2 : Int32) (xl3 : Int32) (xl4 : Int32)  (post : AH → Prop) : Prop := (ob h al0 0) ∧ (∃ rv1, aP h al0 1 = some rv1 ∧ ((ob h rv1 13) ∧ ((vp_in xl1 (aL h rv1)) ∧ (((aI h rv1 xl1.toNatClampNeg) ≤ xl4 → (post h)) ∧ (¬ (aI h rv1 xl1.toNatClampNeg) ≤ xl4 → ((ob h al0 0) ∧ (∃ rv2, aP h al0 8 = some rv2 ∧ ((ob h al0 0) ∧ (∃ rv3, aP h al0 3 = some rv3 ∧ ((ob h rv3 14) ∧ ((vp_in ((xl1 * (40 : Int32)) + xl4) (aL h rv3)) ∧ ((ob h rv2 14) ∧ ((vp_in xl1 (aL h rv2)) ∧ (∀ hv4 : AH, hv4 = hJ h rv2 xl1.toNatClampNeg (aJ h rv3 ((xl1 * (40 : Int32)) + xl4).toNatClampNeg) → (∃ n, wl_X0_weighTwo_56 K24 post n hv4 al0 xl1 xl2 xl3 xl4 0)))))))))))))))
set_option maxRecDepth 100000 in
theorem tb_X0_weighTwo_24 {G : GG} {p : Program} {l : Launch} {e : Env} {R : Room} {s : State} {m : MethodId} {args : Array Value} {below : List Frame} {meth : Method} {c : Code} {n0 s0 : Nat} {post : AH → Prop} (C : Cx G p R s m args meth c 7 cX0_weighTwo RX0 n0 s0 3 73) (hr : meth.sig.returnType = none) {K24 : AH → Nat → Int32 → Int32 → Int32 → Int32 → Prop} (hK24 : ∀ (h : AH) (al0 : Nat) (xl1 : Int32) (xl2 : Int32) (xl3 : Int32) (xl4 : Int32), K24 h al0 xl1 xl2 xl3 xl4 → AW G p l e R s m args below meth c 7 (QM G (pV post) args s below n0 s0) 24 [(0, .ref (G.1 + al0)), (1, .int xl1), (2, .int xl2), (3, .int xl3), (4, .int xl4)] [] h) {h : AH} {al0 : Nat} {xl1 : Int32} {xl2 : Int32} {xl3 : Int32} {xl4 : Int32}  (hw : wb_X0_weighTwo_24 K24 h al0 xl1 xl2 xl3 xl4 post) : AW G p l e R s m args below meth c 7 (QM G (pV post) args s below n0 s0) 24 [(0, .ref (G.1 + al0)), (1, .int xl1), (2, .int xl2), (3, .int xl3), (4, .int xl4)] [] h := by
  unfold wb_X0_weighTwo_24 at hw
  refine r_iload C dX0_weighTwo_24 4 rfl ?_
  refine r_aload_n C dX0_weighTwo_26 0 rfl ?_
  have hob := hw.1
  obtain ⟨rv1, hp, hw⟩ := hw.2
  refine r_getP C fl_RX0_11_0 hob hp (fun _ _ _ => rfl) dX0_weighTwo_27 ?_
  refine r_iload_n C dX0_weighTwo_30 1 rfl ?_
  refine r_iaload C hw.1 hw.2.1 dX0_weighTwo_31 ?_
  replace hw := hw.2.2
  refine r_icmp_ge C dX0_weighTwo_32 154 (by decide) (fun hc => ?_) (fun hc => ?_)
  · replace hw := hw.1 hc
    exact r_vret C hr dX0_weighTwo_154 hw
  · replace hw := hw.2 hc
    refine r_aload_n C dX0_weighTwo_35 0 rfl ?_
    have hob := hw.1
    obtain ⟨rv2, hp, hw⟩ := hw.2
    refine r_getP C fl_RX0_34_0 hob hp (fun _ _ _ => rfl) dX0_weighTwo_36 ?_
    refine r_iload_n C dX0_weighTwo_39 1 rfl ?_
    refine r_aload_n C dX0_weighTwo_40 0 rfl ?_
    have hob := hw.1
    obtain ⟨rv3, hp, hw⟩ := hw.2
    refine r_getP C fl_RX0_18_0 hob hp (fun _ _ _ => rfl) dX0_weighTwo_41 ?_
    refine r_iload_n C dX0_weighTwo_44 1 rfl ?_
    refine r_bipush (v := 40) C dX0_weighTwo_45 (by decide) ?_
    refine r_imul C dX0_weighTwo_47 ?_
    refine r_iload C dX0_weighTwo_48 4 rfl ?_
    refine r_iadd C dX0_weighTwo_50 ?_
    refine r_laload C hw.1 hw.2.1 dX0_weighTwo_51 ?_
    replace hw := hw.2.2
    refine r_lastore C hw.1 hw.2.1 dX0_weighTwo_52 ?_
    replace hw := hw.2.2
    refine r_toph fun hv4 ehv4 => ?_
    replace hw := hw hv4 ehv4
    refine r_iconst (v := 0) C dX0_weighTwo_53 (by decide) ?_
    refine r_istore C dX0_weighTwo_54 [(5, .int 0), (0, .ref (G.1 + al0)), (1, .int xl1), (2, .int xl2), (3, .int xl3), (4, .int xl4)] (by decide) rfl ?_
    refine r_sub [1, 2, 3, 4, 5, 0] rfl ?_
    obtain ⟨n, hw⟩ := hw
    exact tl_X0_weighTwo_56 C hr hK24 n _ _ _ _ _ _ _ hw
def wl_X0_weighTwo_24  (post : AH → Prop) : Nat → AH → Nat → Int32 → Int32 → Int32 → Int32 → Prop
  | 0 => fun _ _ _ _ _ _ => False
  | n + 1 => fun h al0 xl1 xl2 xl3 xl4 => wb_X0_weighTwo_24  (wl_X0_weighTwo_24  post n) h al0 xl1 xl2 xl3 xl4 post
theorem tl_X0_weighTwo_24 {G : GG} {p : Program} {l : Launch} {e : Env} {R : Room} {s : State} {m : MethodId} {args : Array Value} {below : List Frame} {meth : Method} {c : Code} {n0 s0 : Nat} {post : AH → Prop} (C : Cx G p R s m args meth c 7 cX0_weighTwo RX0 n0 s0 3 73) (hr : meth.sig.returnType = none)   : ∀ (n : Nat) (h : AH) (al0 : Nat) (xl1 : Int32) (xl2 : Int32) (xl3 : Int32) (xl4 : Int32), wl_X0_weighTwo_24  post n h al0 xl1 xl2 xl3 xl4 → AW G p l e R s m args below meth c 7 (QM G (pV post) args s below n0 s0) 24 [(0, .ref (G.1 + al0)), (1, .int xl1), (2, .int xl2), (3, .int xl3), (4, .int xl4)] [] h := by
  intro n
  induction n with
  | zero => intro h al0 xl1 xl2 xl3 xl4 hw; exact hw.elim
  | succ n ih => intro h al0 xl1 xl2 xl3 xl4 hw; exact tb_X0_weighTwo_24 C hr  ih hw
def wp_X0_weighTwo (h : AH) (a0 : Nat) (x1 : Int32) (x2 : Int32) (post : AH → Prop) : Prop := (ob h a0 0) ∧ (∃ rv1, aP h a0 0 = some rv1 ∧ ((ob h rv1 1) ∧ (∃ rv2, aP h rv1 15 = some rv2 ∧ ((ob h rv2 9) ∧ wp_X10_bitsWithin h rv2 x1 x2 (fun hv3 iv4 => (ob hv3 a0 0) ∧ (∃ rv5, aP hv3 a0 8 = some rv5 ∧ (wp_J7_fill_d0a16 hv3 rv5 0 (fun hv6  => ∃ n, wl_X0_weighTwo_24  post n hv6 a0 x1 x2 iv4 0))))))))
set_option maxRecDepth 100000 in
theorem c_X0_weighTwo (G : GG) (h : AH) (a0 : Nat) (x1 : Int32) (x2 : Int32) (post : AH → Prop) (hw : wp_X0_weighTwo h a0 x1 x2 post) : MC G yX0_weighTwo cX0_weighTwo 7 none 3 73 h [.ref (G.1 + a0), .int x1, .int x2] (pV post) := by
  refine MC.of (lv := [(0, .ref (G.1 + a0)), (1, .int x1), (2, .int x2)]) (by decide) (Nat.le_of_ble_eq_true rfl) rfl fun p l e R s m args below meth c C hr hnm => ?_
  unfold wp_X0_weighTwo at hw
  refine r_aload_n C dX0_weighTwo_0 0 rfl ?_
  have hob := hw.1
  obtain ⟨rv1, hp, hw⟩ := hw.2
  refine r_getP C fl_RX0_37_0 hob hp (fun _ _ _ => rfl) dX0_weighTwo_1 ?_
  have hob := hw.1
  obtain ⟨rv2, hp, hw⟩ := hw.2
  refine r_getP C fl_RX0_95_1 hob hp (fun _ _ _ => rfl) dX0_weighTwo_4 ?_
  refine r_iload_n C dX0_weighTwo_7 1 rfl ?_
  refine r_iload_n C dX0_weighTwo_8 2 rfl ?_
  have hob := hw.1
  replace hw := hw.2
  refine r_callV C (As := [.int x1, .int x2]) (rest := []) (c_X10_bitsWithin G h rv2 x1 x2 _ hw) yl_X10_bitsWithin (gm5 (List.mem_of_getElem? (i := 224) rfl) rfl) (gm5 (List.mem_of_getElem? (i := 225) rfl) rfl) (ci := 9) rfl (by decide) (gm5 (List.mem_of_getElem? (i := 226) rfl) rfl) hob (by decide) rfl (Nat.le_of_ble_eq_true rfl) dX0_weighTwo_9 rfl (kI fun hv3 iv4 hw => ?_)
  refine r_istore_n C dX0_weighTwo_12 [(3, .int iv4), (0, .ref (G.1 + a0)), (1, .int x1), (2, .int x2)] (by decide) rfl ?_
  refine r_aload_n C dX0_weighTwo_13 1 rfl ?_
  have hob := hw.1
  obtain ⟨rv5, hp, hw⟩ := hw.2
  refine r_getP C fl_RX0_34_0 hob hp (fun _ _ _ => rfl) dX0_weighTwo_14 ?_
  refine r_lconst (v := 0) C dX0_weighTwo_17 (by decide) ?_
  refine r_callS C (As := [.ref (G.1 + rv5), .long 0]) (rest := []) (c_J7_fill_d0a16 G hv3 rv5 0 _ hw) yl_J7_fill_d0a16 (gm5 (List.mem_of_getElem? (i := 102) rfl) rfl) (gm3 (List.mem_of_getElem? (i := 129) rfl) rfl) (by decide) rfl (Nat.le_of_ble_eq_true rfl) dX0_weighTwo_18 rfl (kV fun hv6  hw => ?_)
  refine r_iconst (v := 0) C dX0_weighTwo_21 (by decide) ?_
  refine r_istore C dX0_weighTwo_22 [(4, .int 0), (3, .int iv4), (0, .ref (G.1 + a0)), (1, .int x1), (2, .int x2)] (by decide) rfl ?_
  refine r_sub [2, 3, 4, 1, 0] rfl ?_
  obtain ⟨n, hw⟩ := hw
  exact tl_X0_weighTwo_24 C hr  n _ _ _ _ _ _ hw
theorem dX0_weigh_0 : decode cX0_weigh 0 = .ok (.iconst 0, 1) := by decide +kernel
theorem dX0_weigh_1 : decode cX0_weigh 1 = .ok (.istore_n 1, 1) := by decide +kernel
theorem dX0_weigh_2 : decode cX0_weigh 2 = .ok (.iload_n 1, 1) := by decide +kernel
theorem dX0_weigh_3 : decode cX0_weigh 3 = .ok (.iconst 3, 1) := by decide +kernel
theorem dX0_weigh_4 : decode cX0_weigh 4 = .ok (.if_icmp .ge 30, 3) := by decide +kernel
theorem dX0_weigh_7 : decode cX0_weigh 7 = .ok (.iload_n 1, 1) := by decide +kernel
theorem dX0_weigh_8 : decode cX0_weigh 8 = .ok (.iconst 1, 1) := by decide +kernel
theorem dX0_weigh_9 : decode cX0_weigh 9 = .ok (.iadd, 1) := by decide +kernel
theorem dX0_weigh_10 : decode cX0_weigh 10 = .ok (.istore_n 2, 1) := by decide +kernel
theorem dX0_weigh_11 : decode cX0_weigh 11 = .ok (.iload_n 2, 1) := by decide +kernel
theorem dX0_weigh_12 : decode cX0_weigh 12 = .ok (.iconst 3, 1) := by decide +kernel
theorem dX0_weigh_13 : decode cX0_weigh 13 = .ok (.if_icmp .ge 15, 3) := by decide +kernel
theorem dX0_weigh_16 : decode cX0_weigh 16 = .ok (.aload_n 0, 1) := by decide +kernel
theorem dX0_weigh_17 : decode cX0_weigh 17 = .ok (.iload_n 1, 1) := by decide +kernel
theorem dX0_weigh_18 : decode cX0_weigh 18 = .ok (.iload_n 2, 1) := by decide +kernel
theorem dX0_weigh_19 : decode cX0_weigh 19 = .ok (.invokevirtual 92, 3) := by decide +kernel
theorem dX0_weigh_22 : decode cX0_weigh 22 = .ok (.iinc 2 1, 3) := by decide +kernel
theorem dX0_weigh_25 : decode cX0_weigh 25 = .ok (.goto (-14), 3) := by decide +kernel
theorem dX0_weigh_28 : decode cX0_weigh 28 = .ok (.iinc 1 1, 3) := by decide +kernel
theorem dX0_weigh_31 : decode cX0_weigh 31 = .ok (.goto (-29), 3) := by decide +kernel
theorem dX0_weigh_34 : decode cX0_weigh 34 = .ok (.return_, 1) := by decide +kernel
def wb_X0_weigh_11 (K2 : AH → Nat → Int32 → Prop) (K11 : AH → Nat → Int32 → Int32 → Prop) (h : AH) (al0 : Nat) (xl1 : Int32) (xl2 : Int32)  (post : AH → Prop) : Prop := (3 ≤ xl2 → (∀ iv1 : Int32, iv1 = xl1 + 1 → (K2 h al0 iv1))) ∧ (¬ 3 ≤ xl2 → ((ob h al0 0) ∧ wp_X0_weighTwo h al0 xl1 xl2 (fun hv2  => ∀ iv3 : Int32, iv3 = xl2 + 1 → (K11 hv2 al0 xl1 iv3))))
set_option maxRecDepth 100000 in
theorem tb_X0_weigh_11 {G : GG} {p : Program} {l : Launch} {e : Env} {R : Room} {s : State} {m : MethodId} {args : Array Value} {below : List Frame} {meth : Method} {c : Code} {n0 s0 : Nat} {post : AH → Prop} (C : Cx G p R s m args meth c 3 cX0_weigh RX0 n0 s0 4 99) (hr : meth.sig.returnType = none) {K2 : AH → Nat → Int32 → Prop} {K11 : AH → Nat → Int32 → Int32 → Prop} (hK2 : ∀ (h : AH) (al0 : Nat) (xl1 : Int32), K2 h al0 xl1 → AW G p l e R s m args below meth c 3 (QM G (pV post) args s below n0 s0) 2 [(0, .ref (G.1 + al0)), (1, .int xl1)] [] h) (hK11 : ∀ (h : AH) (al0 : Nat) (xl1 : Int32) (xl2 : Int32), K11 h al0 xl1 xl2 → AW G p l e R s m args below meth c 3 (QM G (pV post) args s below n0 s0) 11 [(0, .ref (G.1 + al0)), (1, .int xl1), (2, .int xl2)] [] h) {h : AH} {al0 : Nat} {xl1 : Int32} {xl2 : Int32}  (hw : wb_X0_weigh_11 K2 K11 h al0 xl1 xl2 post) : AW G p l e R s m args below meth c 3 (QM G (pV post) args s below n0 s0) 11 [(0, .ref (G.1 + al0)), (1, .int xl1), (2, .int xl2)] [] h := by
  unfold wb_X0_weigh_11 at hw
  refine r_iload_n C dX0_weigh_11 2 rfl ?_
  refine r_iconst (v := 3) C dX0_weigh_12 (by decide) ?_
  refine r_icmp_ge C dX0_weigh_13 28 (by decide) (fun hc => ?_) (fun hc => ?_)
  · replace hw := hw.1 hc
    obtain ⟨iv1, eiv1⟩ : ∃ q : Int32, q = xl1 + 1 := ⟨_, rfl⟩
    replace hw := hw iv1 eiv1
    refine r_iinc C dX0_weigh_28 1 rfl (by rw [eiv1]; rfl) [(1, .int iv1), (0, .ref (G.1 + al0)), (2, .int xl2)] (by decide) rfl ?_
    refine r_goto C dX0_weigh_31 2 (by decide) ?_
    refine r_sub [1, 0] rfl ?_
    exact hK2 _ _ _ hw
  · replace hw := hw.2 hc
    refine r_aload_n C dX0_weigh_16 0 rfl ?_
    refine r_iload_n C dX0_weigh_17 1 rfl ?_
    refine r_iload_n C dX0_weigh_18 2 rfl ?_
    have hob := hw.1
    replace hw := hw.2
    refine r_callV C (As := [.int xl1, .int xl2]) (rest := []) (c_X0_weighTwo G h al0 xl1 xl2 _ hw) yl_X0_weighTwo (gm5 (List.mem_of_getElem? (i := 220) rfl) rfl) (gm5 (List.mem_of_getElem? (i := 222) rfl) rfl) (ci := 0) rfl (by decide) (gsel (List.mem_of_getElem? (i := 35) rfl)) hob (by decide) rfl (Nat.le_of_ble_eq_true rfl) dX0_weigh_19 rfl (kV fun hv2  hw => ?_)
    obtain ⟨iv3, eiv3⟩ : ∃ q : Int32, q = xl2 + 1 := ⟨_, rfl⟩
    replace hw := hw iv3 eiv3
    refine r_iinc C dX0_weigh_22 2 rfl (by rw [eiv3]; rfl) [(2, .int iv3), (0, .ref (G.1 + al0)), (1, .int xl1)] (by decide) rfl ?_
    refine r_goto C dX0_weigh_25 11 (by decide) ?_
    refine r_sub [1, 2, 0] rfl ?_
    exact hK11 _ _ _ _ hw
def wl_X0_weigh_11 (K2 : AH → Nat → Int32 → Prop) (post : AH → Prop) : Nat → AH → Nat → Int32 → Int32 → Prop
  | 0 => fun _ _ _ _ => False
  | n + 1 => fun h al0 xl1 xl2 => wb_X0_weigh_11 K2 (wl_X0_weigh_11 K2 post n) h al0 xl1 xl2 post
theorem tl_X0_weigh_11 {G : GG} {p : Program} {l : Launch} {e : Env} {R : Room} {s : State} {m : MethodId} {args : Array Value} {below : List Frame} {meth : Method} {c : Code} {n0 s0 : Nat} {post : AH → Prop} (C : Cx G p R s m args meth c 3 cX0_weigh RX0 n0 s0 4 99) (hr : meth.sig.returnType = none) {K2 : AH → Nat → Int32 → Prop} (hK2 : ∀ (h : AH) (al0 : Nat) (xl1 : Int32), K2 h al0 xl1 → AW G p l e R s m args below meth c 3 (QM G (pV post) args s below n0 s0) 2 [(0, .ref (G.1 + al0)), (1, .int xl1)] [] h) : ∀ (n : Nat) (h : AH) (al0 : Nat) (xl1 : Int32) (xl2 : Int32), wl_X0_weigh_11 K2 post n h al0 xl1 xl2 → AW G p l e R s m args below meth c 3 (QM G (pV post) args s below n0 s0) 11 [(0, .ref (G.1 + al0)), (1, .int xl1), (2, .int xl2)] [] h := by
  intro n
  induction n with
  | zero => intro h al0 xl1 xl2 hw; exact hw.elim
  | succ n ih => intro h al0 xl1 xl2 hw; exact tb_X0_weigh_11 C hr hK2 ih hw
def wb_X0_weigh_2 (K2 : AH → Nat → Int32 → Prop) (h : AH) (al0 : Nat) (xl1 : Int32)  (post : AH → Prop) : Prop := (3 ≤ xl1 → (post h)) ∧ (¬ 3 ≤ xl1 → (∀ iv1 : Int32, iv1 = xl1 + (1 : Int32) → (∃ n, wl_X0_weigh_11 K2 post n h al0 xl1 iv1)))
set_option maxRecDepth 100000 in
theorem tb_X0_weigh_2 {G : GG} {p : Program} {l : Launch} {e : Env} {R : Room} {s : State} {m : MethodId} {args : Array Value} {below : List Frame} {meth : Method} {c : Code} {n0 s0 : Nat} {post : AH → Prop} (C : Cx G p R s m args meth c 3 cX0_weigh RX0 n0 s0 4 99) (hr : meth.sig.returnType = none) {K2 : AH → Nat → Int32 → Prop} (hK2 : ∀ (h : AH) (al0 : Nat) (xl1 : Int32), K2 h al0 xl1 → AW G p l e R s m args below meth c 3 (QM G (pV post) args s below n0 s0) 2 [(0, .ref (G.1 + al0)), (1, .int xl1)] [] h) {h : AH} {al0 : Nat} {xl1 : Int32}  (hw : wb_X0_weigh_2 K2 h al0 xl1 post) : AW G p l e R s m args below meth c 3 (QM G (pV post) args s below n0 s0) 2 [(0, .ref (G.1 + al0)), (1, .int xl1)] [] h := by
  unfold wb_X0_weigh_2 at hw
  refine r_iload_n C dX0_weigh_2 1 rfl ?_
  refine r_iconst (v := 3) C dX0_weigh_3 (by decide) ?_
  refine r_icmp_ge C dX0_weigh_4 34 (by decide) (fun hc => ?_) (fun hc => ?_)
  · replace hw := hw.1 hc
    exact r_vret C hr dX0_weigh_34 hw
  · replace hw := hw.2 hc
    refine r_iload_n C dX0_weigh_7 1 rfl ?_
    refine r_iconst (v := 1) C dX0_weigh_8 (by decide) ?_
    refine r_iadd C dX0_weigh_9 ?_
    refine r_topi fun iv1 eiv1 => ?_
    replace hw := hw iv1 eiv1
    refine r_istore_n C dX0_weigh_10 [(2, .int iv1), (0, .ref (G.1 + al0)), (1, .int xl1)] (by decide) rfl ?_
    refine r_sub [1, 2, 0] rfl ?_
    obtain ⟨n, hw⟩ := hw
    exact tl_X0_weigh_11 C hr hK2 n _ _ _ _ hw
def wl_X0_weigh_2  (post : AH → Prop) : Nat → AH → Nat → Int32 → Prop
  | 0 => fun _ _ _ => False
  | n + 1 => fun h al0 xl1 => wb_X0_weigh_2  (wl_X0_weigh_2  post n) h al0 xl1 post
theorem tl_X0_weigh_2 {G : GG} {p : Program} {l : Launch} {e : Env} {R : Room} {s : State} {m : MethodId} {args : Array Value} {below : List Frame} {meth : Method} {c : Code} {n0 s0 : Nat} {post : AH → Prop} (C : Cx G p R s m args meth c 3 cX0_weigh RX0 n0 s0 4 99) (hr : meth.sig.returnType = none)   : ∀ (n : Nat) (h : AH) (al0 : Nat) (xl1 : Int32), wl_X0_weigh_2  post n h al0 xl1 → AW G p l e R s m args below meth c 3 (QM G (pV post) args s below n0 s0) 2 [(0, .ref (G.1 + al0)), (1, .int xl1)] [] h := by
  intro n
  induction n with
  | zero => intro h al0 xl1 hw; exact hw.elim
  | succ n ih => intro h al0 xl1 hw; exact tb_X0_weigh_2 C hr  ih hw
def wp_X0_weigh (h : AH) (a0 : Nat) (post : AH → Prop) : Prop := ∃ n, wl_X0_weigh_2  post n h a0 0
set_option maxRecDepth 100000 in
theorem c_X0_weigh (G : GG) (h : AH) (a0 : Nat) (post : AH → Prop) (hw : wp_X0_weigh h a0 post) : MC G yX0_weigh cX0_weigh 3 none 4 99 h [.ref (G.1 + a0)] (pV post) := by
  refine MC.of (lv := [(0, .ref (G.1 + a0))]) (by decide) (Nat.le_of_ble_eq_true rfl) rfl fun p l e R s m args below meth c C hr hnm => ?_
  unfold wp_X0_weigh at hw
  refine r_iconst (v := 0) C dX0_weigh_0 (by decide) ?_
  refine r_istore_n C dX0_weigh_1 [(1, .int 0), (0, .ref (G.1 + a0))] (by decide) rfl ?_
  refine r_sub [1, 0] rfl ?_
  obtain ⟨n, hw⟩ := hw
  exact tl_X0_weigh_2 C hr  n _ _ _ hw
theorem dX0_numberIn_0 : decode cX0_numberIn 0 = .ok (.iload_n 0, 1) := by decide +kernel
theorem dX0_numberIn_1 : decode cX0_numberIn 1 = .ok (.bipush 6, 2) := by decide +kernel
theorem dX0_numberIn_3 : decode cX0_numberIn 3 = .ok (.iconst 2, 1) := by decide +kernel
theorem dX0_numberIn_4 : decode cX0_numberIn 4 = .ok (.iload_n 1, 1) := by decide +kernel
theorem dX0_numberIn_5 : decode cX0_numberIn 5 = .ok (.isub, 1) := by decide +kernel
theorem dX0_numberIn_6 : decode cX0_numberIn 6 = .ok (.imul, 1) := by decide +kernel
theorem dX0_numberIn_7 : decode cX0_numberIn 7 = .ok (.ishr, 1) := by decide +kernel
theorem dX0_numberIn_8 : decode cX0_numberIn 8 = .ok (.bipush 63, 2) := by decide +kernel
theorem dX0_numberIn_10 : decode cX0_numberIn 10 = .ok (.iand, 1) := by decide +kernel
theorem dX0_numberIn_11 : decode cX0_numberIn 11 = .ok (.ireturn, 1) := by decide +kernel
def wp_X0_numberIn (h : AH) (x0 : Int32) (x1 : Int32) (post : AH → Int32 → Prop) : Prop := post h ((x0 >>> (((6 : Int32) * ((2 : Int32) - x1)) &&& 31)) &&& (63 : Int32))
set_option maxRecDepth 100000 in
theorem c_X0_numberIn (G : GG) (h : AH) (x0 : Int32) (x1 : Int32) (post : AH → Int32 → Prop) (hw : wp_X0_numberIn h x0 x1 post) : MC G yX0_numberIn cX0_numberIn 2 (some .int) 0 0 h [.int x0, .int x1] (pI post) := by
  refine MC.of (lv := [(0, .int x0), (1, .int x1)]) (by decide) (Nat.le_of_ble_eq_true rfl) rfl fun p l e R s m args below meth c C hr hnm => ?_
  unfold wp_X0_numberIn at hw
  refine r_iload_n C dX0_numberIn_0 0 rfl ?_
  refine r_bipush (v := 6) C dX0_numberIn_1 (by decide) ?_
  refine r_iconst (v := 2) C dX0_numberIn_3 (by decide) ?_
  refine r_iload_n C dX0_numberIn_4 1 rfl ?_
  refine r_isub C dX0_numberIn_5 ?_
  refine r_imul C dX0_numberIn_6 ?_
  refine r_ishr C dX0_numberIn_7 ?_
  refine r_bipush (v := 63) C dX0_numberIn_8 (by decide) ?_
  refine r_iand C dX0_numberIn_10 ?_
  exact r_iret C hr dX0_numberIn_11 hw
theorem dX0_notSoByTwo_0 : decode cX0_notSoByTwo 0 = .ok (.aload_n 0, 1) := by decide +kernel
theorem dX0_notSoByTwo_1 : decode cX0_notSoByTwo 1 = .ok (.getfield 31, 3) := by decide +kernel
theorem dX0_notSoByTwo_4 : decode cX0_notSoByTwo 4 = .ok (.iload_n 1, 1) := by decide +kernel
theorem dX0_notSoByTwo_5 : decode cX0_notSoByTwo 5 = .ok (.iconst 0, 1) := by decide +kernel
theorem dX0_notSoByTwo_6 : decode cX0_notSoByTwo 6 = .ok (.invokestatic 108, 3) := by decide +kernel
theorem dX0_notSoByTwo_9 : decode cX0_notSoByTwo 9 = .ok (.bipush 40, 2) := by decide +kernel
theorem dX0_notSoByTwo_11 : decode cX0_notSoByTwo 11 = .ok (.imul, 1) := by decide +kernel
theorem dX0_notSoByTwo_12 : decode cX0_notSoByTwo 12 = .ok (.iload_n 1, 1) := by decide +kernel
theorem dX0_notSoByTwo_13 : decode cX0_notSoByTwo 13 = .ok (.iconst 1, 1) := by decide +kernel
theorem dX0_notSoByTwo_14 : decode cX0_notSoByTwo 14 = .ok (.invokestatic 108, 3) := by decide +kernel
theorem dX0_notSoByTwo_17 : decode cX0_notSoByTwo 17 = .ok (.iadd, 1) := by decide +kernel
theorem dX0_notSoByTwo_18 : decode cX0_notSoByTwo 18 = .ok (.iaload, 1) := by decide +kernel
theorem dX0_notSoByTwo_19 : decode cX0_notSoByTwo 19 = .ok (.ireturn, 1) := by decide +kernel
def wp_X0_notSoByTwo (h : AH) (a0 : Nat) (x1 : Int32) (post : AH → Int32 → Prop) : Prop := (ob h a0 0) ∧ (∃ rv1, aP h a0 7 = some rv1 ∧ (wp_X0_numberIn h x1 0 (fun hv2 iv3 => wp_X0_numberIn hv2 x1 1 (fun hv4 iv5 => (ob hv4 rv1 13) ∧ ((vp_in ((iv3 * (40 : Int32)) + iv5) (aL hv4 rv1)) ∧ (post hv4 (aI hv4 rv1 ((iv3 * (40 : Int32)) + iv5).toNatClampNeg)))))))
set_option maxRecDepth 100000 in
theorem c_X0_notSoByTwo (G : GG) (h : AH) (a0 : Nat) (x1 : Int32) (post : AH → Int32 → Prop) (hw : wp_X0_notSoByTwo h a0 x1 post) : MC G yX0_notSoByTwo cX0_notSoByTwo 2 (some .int) 1 21 h [.ref (G.1 + a0), .int x1] (pI post) := by
  refine MC.of (lv := [(0, .ref (G.1 + a0)), (1, .int x1)]) (by decide) (Nat.le_of_ble_eq_true rfl) rfl fun p l e R s m args below meth c C hr hnm => ?_
  unfold wp_X0_notSoByTwo at hw
  refine r_aload_n C dX0_notSoByTwo_0 0 rfl ?_
  have hob := hw.1
  obtain ⟨rv1, hp, hw⟩ := hw.2
  refine r_getP C fl_RX0_31_0 hob hp (fun _ _ _ => rfl) dX0_notSoByTwo_1 ?_
  refine r_iload_n C dX0_notSoByTwo_4 1 rfl ?_
  refine r_iconst (v := 0) C dX0_notSoByTwo_5 (by decide) ?_
  refine r_callS C (As := [.int x1, .int 0]) (rest := [.ref (G.1 + rv1)]) (c_X0_numberIn G h x1 0 _ hw) yl_X0_numberIn (gm5 (List.mem_of_getElem? (i := 166) rfl) rfl) (gm5 (List.mem_of_getElem? (i := 159) rfl) rfl) (by decide) rfl (Nat.le_of_ble_eq_true rfl) dX0_notSoByTwo_6 rfl (kI fun hv2 iv3 hw => ?_)
  refine r_bipush (v := 40) C dX0_notSoByTwo_9 (by decide) ?_
  refine r_imul C dX0_notSoByTwo_11 ?_
  refine r_iload_n C dX0_notSoByTwo_12 1 rfl ?_
  refine r_iconst (v := 1) C dX0_notSoByTwo_13 (by decide) ?_
  refine r_callS C (As := [.int x1, .int 1]) (rest := [.int (iv3 * (40 : Int32)), .ref (G.1 + rv1)]) (c_X0_numberIn G hv2 x1 1 _ hw) yl_X0_numberIn (gm5 (List.mem_of_getElem? (i := 166) rfl) rfl) (gm5 (List.mem_of_getElem? (i := 159) rfl) rfl) (by decide) rfl (Nat.le_of_ble_eq_true rfl) dX0_notSoByTwo_14 rfl (kI fun hv4 iv5 hw => ?_)
  refine r_iadd C dX0_notSoByTwo_17 ?_
  refine r_iaload C hw.1 hw.2.1 dX0_notSoByTwo_18 ?_
  replace hw := hw.2.2
  exact r_iret C hr dX0_notSoByTwo_19 hw
theorem dX0_notSoIn_0 : decode cX0_notSoIn 0 = .ok (.iload_n 1, 1) := by decide +kernel
theorem dX0_notSoIn_1 : decode cX0_notSoIn 1 = .ok (.iconst 2, 1) := by decide +kernel
theorem dX0_notSoIn_2 : decode cX0_notSoIn 2 = .ok (.invokestatic 108, 3) := by decide +kernel
theorem dX0_notSoIn_5 : decode cX0_notSoIn 5 = .ok (.istore_n 2, 1) := by decide +kernel
theorem dX0_notSoIn_6 : decode cX0_notSoIn 6 = .ok (.aload_n 0, 1) := by decide +kernel
theorem dX0_notSoIn_7 : decode cX0_notSoIn 7 = .ok (.iload_n 1, 1) := by decide +kernel
theorem dX0_notSoIn_8 : decode cX0_notSoIn 8 = .ok (.invokevirtual 111, 3) := by decide +kernel
theorem dX0_notSoIn_11 : decode cX0_notSoIn 11 = .ok (.aload_n 0, 1) := by decide +kernel
theorem dX0_notSoIn_12 : decode cX0_notSoIn 12 = .ok (.getfield 31, 3) := by decide +kernel
theorem dX0_notSoIn_15 : decode cX0_notSoIn 15 = .ok (.bipush 40, 2) := by decide +kernel
theorem dX0_notSoIn_17 : decode cX0_notSoIn 17 = .ok (.iload_n 1, 1) := by decide +kernel
theorem dX0_notSoIn_18 : decode cX0_notSoIn 18 = .ok (.iconst 0, 1) := by decide +kernel
theorem dX0_notSoIn_19 : decode cX0_notSoIn 19 = .ok (.invokestatic 108, 3) := by decide +kernel
theorem dX0_notSoIn_22 : decode cX0_notSoIn 22 = .ok (.iadd, 1) := by decide +kernel
theorem dX0_notSoIn_23 : decode cX0_notSoIn 23 = .ok (.bipush 40, 2) := by decide +kernel
theorem dX0_notSoIn_25 : decode cX0_notSoIn 25 = .ok (.imul, 1) := by decide +kernel
theorem dX0_notSoIn_26 : decode cX0_notSoIn 26 = .ok (.iload_n 2, 1) := by decide +kernel
theorem dX0_notSoIn_27 : decode cX0_notSoIn 27 = .ok (.iadd, 1) := by decide +kernel
theorem dX0_notSoIn_28 : decode cX0_notSoIn 28 = .ok (.iaload, 1) := by decide +kernel
theorem dX0_notSoIn_29 : decode cX0_notSoIn 29 = .ok (.ior, 1) := by decide +kernel
theorem dX0_notSoIn_30 : decode cX0_notSoIn 30 = .ok (.aload_n 0, 1) := by decide +kernel
theorem dX0_notSoIn_31 : decode cX0_notSoIn 31 = .ok (.getfield 31, 3) := by decide +kernel
theorem dX0_notSoIn_34 : decode cX0_notSoIn 34 = .ok (.bipush 80, 2) := by decide +kernel
theorem dX0_notSoIn_36 : decode cX0_notSoIn 36 = .ok (.iload_n 1, 1) := by decide +kernel
theorem dX0_notSoIn_37 : decode cX0_notSoIn 37 = .ok (.iconst 1, 1) := by decide +kernel
theorem dX0_notSoIn_38 : decode cX0_notSoIn 38 = .ok (.invokestatic 108, 3) := by decide +kernel
theorem dX0_notSoIn_41 : decode cX0_notSoIn 41 = .ok (.iadd, 1) := by decide +kernel
theorem dX0_notSoIn_42 : decode cX0_notSoIn 42 = .ok (.bipush 40, 2) := by decide +kernel
theorem dX0_notSoIn_44 : decode cX0_notSoIn 44 = .ok (.imul, 1) := by decide +kernel
theorem dX0_notSoIn_45 : decode cX0_notSoIn 45 = .ok (.iload_n 2, 1) := by decide +kernel
theorem dX0_notSoIn_46 : decode cX0_notSoIn 46 = .ok (.iadd, 1) := by decide +kernel
theorem dX0_notSoIn_47 : decode cX0_notSoIn 47 = .ok (.iaload, 1) := by decide +kernel
theorem dX0_notSoIn_48 : decode cX0_notSoIn 48 = .ok (.ior, 1) := by decide +kernel
theorem dX0_notSoIn_49 : decode cX0_notSoIn 49 = .ok (.ireturn, 1) := by decide +kernel
def wp_X0_notSoIn (h : AH) (a0 : Nat) (x1 : Int32) (post : AH → Int32 → Prop) : Prop := wp_X0_numberIn h x1 2 (fun hv1 iv2 => (ob hv1 a0 0) ∧ wp_X0_notSoByTwo hv1 a0 x1 (fun hv3 iv4 => (ob hv3 a0 0) ∧ (∃ rv5, aP hv3 a0 7 = some rv5 ∧ (wp_X0_numberIn hv3 x1 0 (fun hv6 iv7 => (ob hv6 rv5 13) ∧ ((vp_in ((((40 : Int32) + iv7) * (40 : Int32)) + iv2) (aL hv6 rv5)) ∧ ((ob hv6 a0 0) ∧ (∃ rv8, aP hv6 a0 7 = some rv8 ∧ (wp_X0_numberIn hv6 x1 1 (fun hv9 iv10 => (ob hv9 rv8 13) ∧ ((vp_in ((((80 : Int32) + iv10) * (40 : Int32)) + iv2) (aL hv9 rv8)) ∧ (post hv9 ((iv4 ||| (aI hv6 rv5 ((((40 : Int32) + iv7) * (40 : Int32)) + iv2).toNatClampNeg)) ||| (aI hv9 rv8 ((((80 : Int32) + iv10) * (40 : Int32)) + iv2).toNatClampNeg))))))))))))))
set_option maxRecDepth 100000 in
theorem c_X0_notSoIn (G : GG) (h : AH) (a0 : Nat) (x1 : Int32) (post : AH → Int32 → Prop) (hw : wp_X0_notSoIn h a0 x1 post) : MC G yX0_notSoIn cX0_notSoIn 3 (some .int) 2 42 h [.ref (G.1 + a0), .int x1] (pI post) := by
  refine MC.of (lv := [(0, .ref (G.1 + a0)), (1, .int x1)]) (by decide) (Nat.le_of_ble_eq_true rfl) rfl fun p l e R s m args below meth c C hr hnm => ?_
  unfold wp_X0_notSoIn at hw
  refine r_iload_n C dX0_notSoIn_0 1 rfl ?_
  refine r_iconst (v := 2) C dX0_notSoIn_1 (by decide) ?_
  refine r_callS C (As := [.int x1, .int 2]) (rest := []) (c_X0_numberIn G h x1 2 _ hw) yl_X0_numberIn (gm5 (List.mem_of_getElem? (i := 166) rfl) rfl) (gm5 (List.mem_of_getElem? (i := 159) rfl) rfl) (by decide) rfl (Nat.le_of_ble_eq_true rfl) dX0_notSoIn_2 rfl (kI fun hv1 iv2 hw => ?_)
  refine r_istore_n C dX0_notSoIn_5 [(2, .int iv2), (0, .ref (G.1 + a0)), (1, .int x1)] (by decide) rfl ?_
  refine r_aload_n C dX0_notSoIn_6 1 rfl ?_
  refine r_iload_n C dX0_notSoIn_7 2 rfl ?_
  have hob := hw.1
  replace hw := hw.2
  refine r_callV C (As := [.int x1]) (rest := []) (c_X0_notSoByTwo G hv1 a0 x1 _ hw) yl_X0_notSoByTwo (gm5 (List.mem_of_getElem? (i := 237) rfl) rfl) (gm5 (List.mem_of_getElem? (i := 238) rfl) rfl) (ci := 0) rfl (by decide) (gm5 (List.mem_of_getElem? (i := 239) rfl) rfl) hob (by decide) rfl (Nat.le_of_ble_eq_true rfl) dX0_notSoIn_8 rfl (kI fun hv3 iv4 hw => ?_)
  refine r_aload_n C dX0_notSoIn_11 1 rfl ?_
  have hob := hw.1
  obtain ⟨rv5, hp, hw⟩ := hw.2
  refine r_getP C fl_RX0_31_0 hob hp (fun _ _ _ => rfl) dX0_notSoIn_12 ?_
  refine r_bipush (v := 40) C dX0_notSoIn_15 (by decide) ?_
  refine r_iload_n C dX0_notSoIn_17 2 rfl ?_
  refine r_iconst (v := 0) C dX0_notSoIn_18 (by decide) ?_
  refine r_callS C (As := [.int x1, .int 0]) (rest := [.int 40, .ref (G.1 + rv5), .int iv4]) (c_X0_numberIn G hv3 x1 0 _ hw) yl_X0_numberIn (gm5 (List.mem_of_getElem? (i := 166) rfl) rfl) (gm5 (List.mem_of_getElem? (i := 159) rfl) rfl) (by decide) rfl (Nat.le_of_ble_eq_true rfl) dX0_notSoIn_19 rfl (kI fun hv6 iv7 hw => ?_)
  refine r_iadd C dX0_notSoIn_22 ?_
  refine r_bipush (v := 40) C dX0_notSoIn_23 (by decide) ?_
  refine r_imul C dX0_notSoIn_25 ?_
  refine r_iload_n C dX0_notSoIn_26 0 rfl ?_
  refine r_iadd C dX0_notSoIn_27 ?_
  refine r_iaload C hw.1 hw.2.1 dX0_notSoIn_28 ?_
  replace hw := hw.2.2
  refine r_ior C dX0_notSoIn_29 ?_
  refine r_aload_n C dX0_notSoIn_30 1 rfl ?_
  have hob := hw.1
  obtain ⟨rv8, hp, hw⟩ := hw.2
  refine r_getP C fl_RX0_31_0 hob hp (fun _ _ _ => rfl) dX0_notSoIn_31 ?_
  refine r_bipush (v := 80) C dX0_notSoIn_34 (by decide) ?_
  refine r_iload_n C dX0_notSoIn_36 2 rfl ?_
  refine r_iconst (v := 1) C dX0_notSoIn_37 (by decide) ?_
  refine r_callS C (As := [.int x1, .int 1]) (rest := [.int 80, .ref (G.1 + rv8), .int (iv4 ||| (aI hv6 rv5 ((((40 : Int32) + iv7) * (40 : Int32)) + iv2).toNatClampNeg))]) (c_X0_numberIn G hv6 x1 1 _ hw) yl_X0_numberIn (gm5 (List.mem_of_getElem? (i := 166) rfl) rfl) (gm5 (List.mem_of_getElem? (i := 159) rfl) rfl) (by decide) rfl (Nat.le_of_ble_eq_true rfl) dX0_notSoIn_38 rfl (kI fun hv9 iv10 hw => ?_)
  refine r_iadd C dX0_notSoIn_41 ?_
  refine r_bipush (v := 40) C dX0_notSoIn_42 (by decide) ?_
  refine r_imul C dX0_notSoIn_44 ?_
  refine r_iload_n C dX0_notSoIn_45 0 rfl ?_
  refine r_iadd C dX0_notSoIn_46 ?_
  refine r_iaload C hw.1 hw.2.1 dX0_notSoIn_47 ?_
  replace hw := hw.2.2
  refine r_ior C dX0_notSoIn_48 ?_
  exact r_iret C hr dX0_notSoIn_49 hw
theorem dX1_carries_0 : decode cX1_carries 0 = .ok (.aload_n 0, 1) := by decide +kernel
theorem dX1_carries_1 : decode cX1_carries 1 = .ok (.getfield 31, 3) := by decide +kernel
theorem dX1_carries_4 : decode cX1_carries 4 = .ok (.iload_n 1, 1) := by decide +kernel
theorem dX1_carries_5 : decode cX1_carries 5 = .ok (.iaload, 1) := by decide +kernel
theorem dX1_carries_6 : decode cX1_carries 6 = .ok (.ifCond .ne 5, 3) := by decide +kernel
theorem dX1_carries_9 : decode cX1_carries 9 = .ok (.iconst 1, 1) := by decide +kernel
theorem dX1_carries_10 : decode cX1_carries 10 = .ok (.ireturn, 1) := by decide +kernel
theorem dX1_carries_11 : decode cX1_carries 11 = .ok (.aload_n 0, 1) := by decide +kernel
theorem dX1_carries_12 : decode cX1_carries 12 = .ok (.getfield 19, 3) := by decide +kernel
theorem dX1_carries_15 : decode cX1_carries 15 = .ok (.iload 4, 2) := by decide +kernel
theorem dX1_carries_17 : decode cX1_carries 17 = .ok (.iaload, 1) := by decide +kernel
theorem dX1_carries_18 : decode cX1_carries 18 = .ok (.aload_n 0, 1) := by decide +kernel
theorem dX1_carries_19 : decode cX1_carries 19 = .ok (.getfield 31, 3) := by decide +kernel
theorem dX1_carries_22 : decode cX1_carries 22 = .ok (.iload_n 1, 1) := by decide +kernel
theorem dX1_carries_23 : decode cX1_carries 23 = .ok (.iaload, 1) := by decide +kernel
theorem dX1_carries_24 : decode cX1_carries 24 = .ok (.isub, 1) := by decide +kernel
theorem dX1_carries_25 : decode cX1_carries 25 = .ok (.istore 5, 2) := by decide +kernel
theorem dX1_carries_27 : decode cX1_carries 27 = .ok (.iload 5, 2) := by decide +kernel
theorem dX1_carries_29 : decode cX1_carries 29 = .ok (.ifCond .lt 25, 3) := by decide +kernel
theorem dX1_carries_32 : decode cX1_carries 32 = .ok (.lload_n 2, 1) := by decide +kernel
theorem dX1_carries_33 : decode cX1_carries 33 = .ok (.aload_n 0, 1) := by decide +kernel
theorem dX1_carries_34 : decode cX1_carries 34 = .ok (.getfield 15, 3) := by decide +kernel
theorem dX1_carries_37 : decode cX1_carries 37 = .ok (.iload 5, 2) := by decide +kernel
theorem dX1_carries_39 : decode cX1_carries 39 = .ok (.laload, 1) := by decide +kernel
theorem dX1_carries_40 : decode cX1_carries 40 = .ok (.ldc2_w 112, 3) := by decide +kernel
theorem dX1_carries_43 : decode cX1_carries 43 = .ok (.lxor, 1) := by decide +kernel
theorem dX1_carries_44 : decode cX1_carries 44 = .ok (.land, 1) := by decide +kernel
theorem dX1_carries_45 : decode cX1_carries 45 = .ok (.lconst 0, 1) := by decide +kernel
theorem dX1_carries_46 : decode cX1_carries 46 = .ok (.lcmp, 1) := by decide +kernel
theorem dX1_carries_47 : decode cX1_carries 47 = .ok (.ifCond .ne 7, 3) := by decide +kernel
theorem dX1_carries_50 : decode cX1_carries 50 = .ok (.iconst 1, 1) := by decide +kernel
theorem dX1_carries_51 : decode cX1_carries 51 = .ok (.goto 4, 3) := by decide +kernel
theorem dX1_carries_54 : decode cX1_carries 54 = .ok (.iconst 0, 1) := by decide +kernel
theorem dX1_carries_55 : decode cX1_carries 55 = .ok (.ireturn, 1) := by decide +kernel
def wp_X1_carries (h : AH) (a0 : Nat) (x1 : Int32) (z2 : Int64) (x4 : Int32) (post : AH → Int32 → Prop) : Prop := (ob h a0 1) ∧ (∃ rv1, aP h a0 9 = some rv1 ∧ ((ob h rv1 13) ∧ ((vp_in x1 (aL h rv1)) ∧ ((¬ (aI h rv1 x1.toNatClampNeg) = 0 → ((ob h a0 1) ∧ (∃ rv2, aP h a0 4 = some rv2 ∧ ((ob h rv2 13) ∧ ((vp_in x4 (aL h rv2)) ∧ ((ob h a0 1) ∧ (∃ rv3, aP h a0 9 = some rv3 ∧ ((ob h rv3 13) ∧ ((vp_in x1 (aL h rv3)) ∧ (∀ iv4 : Int32, iv4 = (aI h rv2 x4.toNatClampNeg) - (aI h rv3 x1.toNatClampNeg) → ((iv4 < 0 → (((0 : Int32) = 0 ∨ (0 : Int32) = 1) ∧ post h 0)) ∧ (¬ iv4 < 0 → ((ob h a0 1) ∧ (∃ rv5, aP h a0 3 = some rv5 ∧ ((ob h rv5 14) ∧ ((vp_in iv4 (aL h rv5)) ∧ ((¬ (lg_cmp (z2 &&& ((aJ h rv5 iv4.toNatClampNeg) ^^^ (-1 : Int64))) 0) = 0 → (((0 : Int32) = 0 ∨ (0 : Int32) = 1) ∧ post h 0)) ∧ ((lg_cmp (z2 &&& ((aJ h rv5 iv4.toNatClampNeg) ^^^ (-1 : Int64))) 0) = 0 → (((1 : Int32) = 0 ∨ (1 : Int32) = 1) ∧ post h 1))))))))))))))))))) ∧ ((aI h rv1 x1.toNatClampNeg) = 0 → (((1 : Int32) = 0 ∨ (1 : Int32) = 1) ∧ post h 1))))))
set_option maxRecDepth 100000 in
theorem c_X1_carries (G : GG) (h : AH) (a0 : Nat) (x1 : Int32) (z2 : Int64) (x4 : Int32) (post : AH → Int32 → Prop) (hw : wp_X1_carries h a0 x1 z2 x4 post) : MC G yX1_carries cX1_carries 6 (some .boolean) 0 0 h [.ref (G.1 + a0), .int x1, .long z2, .int x4] (pI post) := by
  refine MC.of (lv := [(0, .ref (G.1 + a0)), (1, .int x1), (2, .long z2), (4, .int x4)]) (by decide) (Nat.le_of_ble_eq_true rfl) rfl fun p l e R s m args below meth c C hr hnm => ?_
  unfold wp_X1_carries at hw
  refine r_aload_n C dX1_carries_0 0 rfl ?_
  have hob := hw.1
  obtain ⟨rv1, hp, hw⟩ := hw.2
  refine r_getP C fl_RX1_31_1 hob hp (fun _ _ _ => rfl) dX1_carries_1 ?_
  refine r_iload_n C dX1_carries_4 1 rfl ?_
  refine r_iaload C hw.1 hw.2.1 dX1_carries_5 ?_
  replace hw := hw.2.2
  refine r_if_ne C dX1_carries_6 11 (by decide) (fun hc => ?_) (fun hc => ?_)
  · replace hw := hw.1 hc
    refine r_aload_n C dX1_carries_11 0 rfl ?_
    have hob := hw.1
    obtain ⟨rv2, hp, hw⟩ := hw.2
    refine r_getP C fl_RX1_19_1 hob hp (fun _ _ _ => rfl) dX1_carries_12 ?_
    refine r_iload C dX1_carries_15 3 rfl ?_
    refine r_iaload C hw.1 hw.2.1 dX1_carries_17 ?_
    replace hw := hw.2.2
    refine r_aload_n C dX1_carries_18 0 rfl ?_
    have hob := hw.1
    obtain ⟨rv3, hp, hw⟩ := hw.2
    refine r_getP C fl_RX1_31_1 hob hp (fun _ _ _ => rfl) dX1_carries_19 ?_
    refine r_iload_n C dX1_carries_22 1 rfl ?_
    refine r_iaload C hw.1 hw.2.1 dX1_carries_23 ?_
    replace hw := hw.2.2
    refine r_isub C dX1_carries_24 ?_
    refine r_topi fun iv4 eiv4 => ?_
    replace hw := hw iv4 eiv4
    refine r_istore C dX1_carries_25 [(5, .int iv4), (0, .ref (G.1 + a0)), (1, .int x1), (2, .long z2), (4, .int x4)] (by decide) rfl ?_
    refine r_iload C dX1_carries_27 0 rfl ?_
    refine r_if_lt C dX1_carries_29 54 (by decide) (fun hc => ?_) (fun hc => ?_)
    · replace hw := hw.1 hc
      refine r_iconst (v := 0) C dX1_carries_54 (by decide) ?_
      exact r_zret C hr dX1_carries_55 hw.1 hw.2
    · replace hw := hw.2 hc
      refine r_lload_n C dX1_carries_32 3 rfl ?_
      refine r_aload_n C dX1_carries_33 1 rfl ?_
      have hob := hw.1
      obtain ⟨rv5, hp, hw⟩ := hw.2
      refine r_getP C fl_RX1_15_1 hob hp (fun _ _ _ => rfl) dX1_carries_34 ?_
      refine r_iload C dX1_carries_37 0 rfl ?_
      refine r_laload C hw.1 hw.2.1 dX1_carries_39 ?_
      replace hw := hw.2.2
      refine r_ldc2 (v := -1) C (gm4 (List.mem_of_getElem? (i := 131) rfl) rfl) dX1_carries_40 ?_
      refine r_lxor C dX1_carries_43 ?_
      refine r_land C dX1_carries_44 ?_
      refine r_lconst (v := 0) C dX1_carries_45 (by decide) ?_
      refine r_lcmp C dX1_carries_46 ?_
      refine r_if_ne C dX1_carries_47 54 (by decide) (fun hc => ?_) (fun hc => ?_)
      · replace hw := hw.1 hc
        refine r_iconst (v := 0) C dX1_carries_54 (by decide) ?_
        exact r_zret C hr dX1_carries_55 hw.1 hw.2
      · replace hw := hw.2 hc
        refine r_iconst (v := 1) C dX1_carries_50 (by decide) ?_
        refine r_goto C dX1_carries_51 55 (by decide) ?_
        exact r_zret C hr dX1_carries_55 hw.1 hw.2
  · replace hw := hw.2 hc
    refine r_iconst (v := 1) C dX1_carries_9 (by decide) ?_
    exact r_zret C hr dX1_carries_10 hw.1 hw.2
theorem dX1_poleUnder_0 : decode cX1_poleUnder 0 = .ok (.iconst 0, 1) := by decide +kernel
theorem dX1_poleUnder_1 : decode cX1_poleUnder 1 = .ok (.istore_n 3, 1) := by decide +kernel
theorem dX1_poleUnder_2 : decode cX1_poleUnder 2 = .ok (.iload_n 3, 1) := by decide +kernel
theorem dX1_poleUnder_3 : decode cX1_poleUnder 3 = .ok (.aload_n 0, 1) := by decide +kernel
theorem dX1_poleUnder_4 : decode cX1_poleUnder 4 = .ok (.getfield 73, 3) := by decide +kernel
theorem dX1_poleUnder_7 : decode cX1_poleUnder 7 = .ok (.if_icmp .ge 31, 3) := by decide +kernel
theorem dX1_poleUnder_10 : decode cX1_poleUnder 10 = .ok (.lload_n 1, 1) := by decide +kernel
theorem dX1_poleUnder_11 : decode cX1_poleUnder 11 = .ok (.aload_n 0, 1) := by decide +kernel
theorem dX1_poleUnder_12 : decode cX1_poleUnder 12 = .ok (.getfield 37, 3) := by decide +kernel
theorem dX1_poleUnder_15 : decode cX1_poleUnder 15 = .ok (.iload_n 3, 1) := by decide +kernel
theorem dX1_poleUnder_16 : decode cX1_poleUnder 16 = .ok (.iaload, 1) := by decide +kernel
theorem dX1_poleUnder_17 : decode cX1_poleUnder 17 = .ok (.lushr, 1) := by decide +kernel
theorem dX1_poleUnder_18 : decode cX1_poleUnder 18 = .ok (.lconst 1, 1) := by decide +kernel
theorem dX1_poleUnder_19 : decode cX1_poleUnder 19 = .ok (.land, 1) := by decide +kernel
theorem dX1_poleUnder_20 : decode cX1_poleUnder 20 = .ok (.lconst 0, 1) := by decide +kernel
theorem dX1_poleUnder_21 : decode cX1_poleUnder 21 = .ok (.lcmp, 1) := by decide +kernel
theorem dX1_poleUnder_22 : decode cX1_poleUnder 22 = .ok (.ifCond .eq 10, 3) := by decide +kernel
theorem dX1_poleUnder_25 : decode cX1_poleUnder 25 = .ok (.aload_n 0, 1) := by decide +kernel
theorem dX1_poleUnder_26 : decode cX1_poleUnder 26 = .ok (.getfield 37, 3) := by decide +kernel
theorem dX1_poleUnder_29 : decode cX1_poleUnder 29 = .ok (.iload_n 3, 1) := by decide +kernel
theorem dX1_poleUnder_30 : decode cX1_poleUnder 30 = .ok (.iaload, 1) := by decide +kernel
theorem dX1_poleUnder_31 : decode cX1_poleUnder 31 = .ok (.ireturn, 1) := by decide +kernel
theorem dX1_poleUnder_32 : decode cX1_poleUnder 32 = .ok (.iinc 3 1, 3) := by decide +kernel
theorem dX1_poleUnder_35 : decode cX1_poleUnder 35 = .ok (.goto (-33), 3) := by decide +kernel
theorem dX1_poleUnder_38 : decode cX1_poleUnder 38 = .ok (.iconst (-1), 1) := by decide +kernel
theorem dX1_poleUnder_39 : decode cX1_poleUnder 39 = .ok (.ireturn, 1) := by decide +kernel
def wb_X1_poleUnder_2 (K2 : AH → Nat → Int64 → Int32 → Prop) (h : AH) (al0 : Nat) (zl1 : Int64) (xl3 : Int32)  (post : AH → Int32 → Prop) : Prop := (ob h al0 1) ∧ (((aI h al0 11) ≤ xl3 → (post h (-1))) ∧ (¬ (aI h al0 11) ≤ xl3 → ((ob h al0 1) ∧ (∃ rv1, aP h al0 12 = some rv1 ∧ ((ob h rv1 13) ∧ ((vp_in xl3 (aL h rv1)) ∧ (((lg_cmp (((zl1.toUInt64 >>> ((aI h rv1 xl3.toNatClampNeg).toInt64.toUInt64 &&& Int64.toUInt64 63)).toInt64) &&& (1 : Int64)) 0) = 0 → (∀ iv2 : Int32, iv2 = xl3 + 1 → (K2 h al0 zl1 iv2))) ∧ (¬ (lg_cmp (((zl1.toUInt64 >>> ((aI h rv1 xl3.toNatClampNeg).toInt64.toUInt64 &&& Int64.toUInt64 63)).toInt64) &&& (1 : Int64)) 0) = 0 → ((ob h al0 1) ∧ (∃ rv3, aP h al0 12 = some rv3 ∧ ((ob h rv3 13) ∧ ((vp_in xl3 (aL h rv3)) ∧ (post h (aI h rv3 xl3.toNatClampNeg))))))))))))))
set_option maxRecDepth 100000 in
theorem tb_X1_poleUnder_2 {G : GG} {p : Program} {l : Launch} {e : Env} {R : Room} {s : State} {m : MethodId} {args : Array Value} {below : List Frame} {meth : Method} {c : Code} {n0 s0 : Nat} {post : AH → Int32 → Prop} (C : Cx G p R s m args meth c 4 cX1_poleUnder RX1 n0 s0 0 0) (hr : meth.sig.returnType = (some .int)) {K2 : AH → Nat → Int64 → Int32 → Prop} (hK2 : ∀ (h : AH) (al0 : Nat) (zl1 : Int64) (xl3 : Int32), K2 h al0 zl1 xl3 → AW G p l e R s m args below meth c 4 (QM G (pI post) args s below n0 s0) 2 [(0, .ref (G.1 + al0)), (1, .long zl1), (3, .int xl3)] [] h) {h : AH} {al0 : Nat} {zl1 : Int64} {xl3 : Int32}  (hw : wb_X1_poleUnder_2 K2 h al0 zl1 xl3 post) : AW G p l e R s m args below meth c 4 (QM G (pI post) args s below n0 s0) 2 [(0, .ref (G.1 + al0)), (1, .long zl1), (3, .int xl3)] [] h := by
  unfold wb_X1_poleUnder_2 at hw
  refine r_iload_n C dX1_poleUnder_2 2 rfl ?_
  refine r_aload_n C dX1_poleUnder_3 0 rfl ?_
  refine r_getI C fl_RX1_73_1 hw.1 (fun _ _ _ => rfl) dX1_poleUnder_4 ?_
  replace hw := hw.2
  refine r_icmp_ge C dX1_poleUnder_7 38 (by decide) (fun hc => ?_) (fun hc => ?_)
  · replace hw := hw.1 hc
    refine r_iconst (v := (-1)) C dX1_poleUnder_38 (by decide) ?_
    exact r_iret C hr dX1_poleUnder_39 hw
  · replace hw := hw.2 hc
    refine r_lload_n C dX1_poleUnder_10 1 rfl ?_
    refine r_aload_n C dX1_poleUnder_11 0 rfl ?_
    have hob := hw.1
    obtain ⟨rv1, hp, hw⟩ := hw.2
    refine r_getP C fl_RX1_37_1 hob hp (fun _ _ _ => rfl) dX1_poleUnder_12 ?_
    refine r_iload_n C dX1_poleUnder_15 2 rfl ?_
    refine r_iaload C hw.1 hw.2.1 dX1_poleUnder_16 ?_
    replace hw := hw.2.2
    refine r_lushr C dX1_poleUnder_17 ?_
    refine r_lconst (v := 1) C dX1_poleUnder_18 (by decide) ?_
    refine r_land C dX1_poleUnder_19 ?_
    refine r_lconst (v := 0) C dX1_poleUnder_20 (by decide) ?_
    refine r_lcmp C dX1_poleUnder_21 ?_
    refine r_if_eq C dX1_poleUnder_22 32 (by decide) (fun hc => ?_) (fun hc => ?_)
    · replace hw := hw.1 hc
      obtain ⟨iv2, eiv2⟩ : ∃ q : Int32, q = xl3 + 1 := ⟨_, rfl⟩
      replace hw := hw iv2 eiv2
      refine r_iinc C dX1_poleUnder_32 2 rfl (by rw [eiv2]; rfl) [(3, .int iv2), (0, .ref (G.1 + al0)), (1, .long zl1)] (by decide) rfl ?_
      refine r_goto C dX1_poleUnder_35 2 (by decide) ?_
      refine r_sub [1, 2, 0] rfl ?_
      exact hK2 _ _ _ _ hw
    · replace hw := hw.2 hc
      refine r_aload_n C dX1_poleUnder_25 0 rfl ?_
      have hob := hw.1
      obtain ⟨rv3, hp, hw⟩ := hw.2
      refine r_getP C fl_RX1_37_1 hob hp (fun _ _ _ => rfl) dX1_poleUnder_26 ?_
      refine r_iload_n C dX1_poleUnder_29 2 rfl ?_
      refine r_iaload C hw.1 hw.2.1 dX1_poleUnder_30 ?_
      replace hw := hw.2.2
      exact r_iret C hr dX1_poleUnder_31 hw
def wl_X1_poleUnder_2  (post : AH → Int32 → Prop) : Nat → AH → Nat → Int64 → Int32 → Prop
  | 0 => fun _ _ _ _ => False
  | n + 1 => fun h al0 zl1 xl3 => wb_X1_poleUnder_2  (wl_X1_poleUnder_2  post n) h al0 zl1 xl3 post
theorem tl_X1_poleUnder_2 {G : GG} {p : Program} {l : Launch} {e : Env} {R : Room} {s : State} {m : MethodId} {args : Array Value} {below : List Frame} {meth : Method} {c : Code} {n0 s0 : Nat} {post : AH → Int32 → Prop} (C : Cx G p R s m args meth c 4 cX1_poleUnder RX1 n0 s0 0 0) (hr : meth.sig.returnType = (some .int))   : ∀ (n : Nat) (h : AH) (al0 : Nat) (zl1 : Int64) (xl3 : Int32), wl_X1_poleUnder_2  post n h al0 zl1 xl3 → AW G p l e R s m args below meth c 4 (QM G (pI post) args s below n0 s0) 2 [(0, .ref (G.1 + al0)), (1, .long zl1), (3, .int xl3)] [] h := by
  intro n
  induction n with
  | zero => intro h al0 zl1 xl3 hw; exact hw.elim
  | succ n ih => intro h al0 zl1 xl3 hw; exact tb_X1_poleUnder_2 C hr  ih hw
def wp_X1_poleUnder (h : AH) (a0 : Nat) (z1 : Int64) (post : AH → Int32 → Prop) : Prop := ∃ n, wl_X1_poleUnder_2  post n h a0 z1 0
set_option maxRecDepth 100000 in
theorem c_X1_poleUnder (G : GG) (h : AH) (a0 : Nat) (z1 : Int64) (post : AH → Int32 → Prop) (hw : wp_X1_poleUnder h a0 z1 post) : MC G yX1_poleUnder cX1_poleUnder 4 (some .int) 0 0 h [.ref (G.1 + a0), .long z1] (pI post) := by
  refine MC.of (lv := [(0, .ref (G.1 + a0)), (1, .long z1)]) (by decide) (Nat.le_of_ble_eq_true rfl) rfl fun p l e R s m args below meth c C hr hnm => ?_
  unfold wp_X1_poleUnder at hw
  refine r_iconst (v := 0) C dX1_poleUnder_0 (by decide) ?_
  refine r_istore_n C dX1_poleUnder_1 [(3, .int 0), (0, .ref (G.1 + a0)), (1, .long z1)] (by decide) rfl ?_
  refine r_sub [1, 2, 0] rfl ?_
  obtain ⟨n, hw⟩ := hw
  exact tl_X1_poleUnder_2 C hr  n _ _ _ _ hw
theorem dX1_hasCell_0 : decode cX1_hasCell 0 = .ok (.iload_n 1, 1) := by decide +kernel
theorem dX1_hasCell_1 : decode cX1_hasCell 1 = .ok (.ifCond .lt 27, 3) := by decide +kernel
theorem dX1_hasCell_4 : decode cX1_hasCell 4 = .ok (.iload_n 1, 1) := by decide +kernel
theorem dX1_hasCell_5 : decode cX1_hasCell 5 = .ok (.aload_n 0, 1) := by decide +kernel
theorem dX1_hasCell_6 : decode cX1_hasCell 6 = .ok (.getfield 60, 3) := by decide +kernel
theorem dX1_hasCell_9 : decode cX1_hasCell 9 = .ok (.if_icmp .ge 19, 3) := by decide +kernel
theorem dX1_hasCell_12 : decode cX1_hasCell 12 = .ok (.iload_n 2, 1) := by decide +kernel
theorem dX1_hasCell_13 : decode cX1_hasCell 13 = .ok (.ifCond .lt 15, 3) := by decide +kernel
theorem dX1_hasCell_16 : decode cX1_hasCell 16 = .ok (.iload_n 2, 1) := by decide +kernel
theorem dX1_hasCell_17 : decode cX1_hasCell 17 = .ok (.aload_n 0, 1) := by decide +kernel
theorem dX1_hasCell_18 : decode cX1_hasCell 18 = .ok (.getfield 64, 3) := by decide +kernel
theorem dX1_hasCell_21 : decode cX1_hasCell 21 = .ok (.if_icmp .ge 7, 3) := by decide +kernel
theorem dX1_hasCell_24 : decode cX1_hasCell 24 = .ok (.iconst 1, 1) := by decide +kernel
theorem dX1_hasCell_25 : decode cX1_hasCell 25 = .ok (.goto 4, 3) := by decide +kernel
theorem dX1_hasCell_28 : decode cX1_hasCell 28 = .ok (.iconst 0, 1) := by decide +kernel
theorem dX1_hasCell_29 : decode cX1_hasCell 29 = .ok (.ireturn, 1) := by decide +kernel
def wp_X1_hasCell (h : AH) (a0 : Nat) (x1 : Int32) (x2 : Int32) (post : AH → Int32 → Prop) : Prop := (x1 < 0 → (((0 : Int32) = 0 ∨ (0 : Int32) = 1) ∧ post h 0)) ∧ (¬ x1 < 0 → ((ob h a0 1) ∧ (((aI h a0 0) ≤ x1 → (((0 : Int32) = 0 ∨ (0 : Int32) = 1) ∧ post h 0)) ∧ (¬ (aI h a0 0) ≤ x1 → ((x2 < 0 → (((0 : Int32) = 0 ∨ (0 : Int32) = 1) ∧ post h 0)) ∧ (¬ x2 < 0 → ((ob h a0 1) ∧ (((aI h a0 1) ≤ x2 → (((0 : Int32) = 0 ∨ (0 : Int32) = 1) ∧ post h 0)) ∧ (¬ (aI h a0 1) ≤ x2 → (((1 : Int32) = 0 ∨ (1 : Int32) = 1) ∧ post h 1))))))))))
set_option maxRecDepth 100000 in
theorem c_X1_hasCell (G : GG) (h : AH) (a0 : Nat) (x1 : Int32) (x2 : Int32) (post : AH → Int32 → Prop) (hw : wp_X1_hasCell h a0 x1 x2 post) : MC G yX1_hasCell cX1_hasCell 3 (some .boolean) 0 0 h [.ref (G.1 + a0), .int x1, .int x2] (pI post) := by
  refine MC.of (lv := [(0, .ref (G.1 + a0)), (1, .int x1), (2, .int x2)]) (by decide) (Nat.le_of_ble_eq_true rfl) rfl fun p l e R s m args below meth c C hr hnm => ?_
  unfold wp_X1_hasCell at hw
  refine r_iload_n C dX1_hasCell_0 1 rfl ?_
  refine r_if_lt C dX1_hasCell_1 28 (by decide) (fun hc => ?_) (fun hc => ?_)
  · replace hw := hw.1 hc
    refine r_iconst (v := 0) C dX1_hasCell_28 (by decide) ?_
    exact r_zret C hr dX1_hasCell_29 hw.1 hw.2
  · replace hw := hw.2 hc
    refine r_iload_n C dX1_hasCell_4 1 rfl ?_
    refine r_aload_n C dX1_hasCell_5 0 rfl ?_
    refine r_getI C fl_RX1_60_1 hw.1 (fun _ _ _ => rfl) dX1_hasCell_6 ?_
    replace hw := hw.2
    refine r_icmp_ge C dX1_hasCell_9 28 (by decide) (fun hc => ?_) (fun hc => ?_)
    · replace hw := hw.1 hc
      refine r_iconst (v := 0) C dX1_hasCell_28 (by decide) ?_
      exact r_zret C hr dX1_hasCell_29 hw.1 hw.2
    · replace hw := hw.2 hc
      refine r_iload_n C dX1_hasCell_12 2 rfl ?_
      refine r_if_lt C dX1_hasCell_13 28 (by decide) (fun hc => ?_) (fun hc => ?_)
      · replace hw := hw.1 hc
        refine r_iconst (v := 0) C dX1_hasCell_28 (by decide) ?_
        exact r_zret C hr dX1_hasCell_29 hw.1 hw.2
      · replace hw := hw.2 hc
        refine r_iload_n C dX1_hasCell_16 2 rfl ?_
        refine r_aload_n C dX1_hasCell_17 0 rfl ?_
        refine r_getI C fl_RX1_64_1 hw.1 (fun _ _ _ => rfl) dX1_hasCell_18 ?_
        replace hw := hw.2
        refine r_icmp_ge C dX1_hasCell_21 28 (by decide) (fun hc => ?_) (fun hc => ?_)
        · replace hw := hw.1 hc
          refine r_iconst (v := 0) C dX1_hasCell_28 (by decide) ?_
          exact r_zret C hr dX1_hasCell_29 hw.1 hw.2
        · replace hw := hw.2 hc
          refine r_iconst (v := 1) C dX1_hasCell_24 (by decide) ?_
          refine r_goto C dX1_hasCell_25 29 (by decide) ?_
          exact r_zret C hr dX1_hasCell_29 hw.1 hw.2
theorem dX1_spotOf_0 : decode cX1_spotOf 0 = .ok (.iload_n 3, 1) := by decide +kernel
theorem dX1_spotOf_1 : decode cX1_spotOf 1 = .ok (.ifCond .eq 25, 3) := by decide +kernel
theorem dX1_spotOf_4 : decode cX1_spotOf 4 = .ok (.aload_n 0, 1) := by decide +kernel
theorem dX1_spotOf_5 : decode cX1_spotOf 5 = .ok (.getfield 25, 3) := by decide +kernel
theorem dX1_spotOf_8 : decode cX1_spotOf 8 = .ok (.iload_n 1, 1) := by decide +kernel
theorem dX1_spotOf_9 : decode cX1_spotOf 9 = .ok (.iaload, 1) := by decide +kernel
theorem dX1_spotOf_10 : decode cX1_spotOf 10 = .ok (.aload_n 0, 1) := by decide +kernel
theorem dX1_spotOf_11 : decode cX1_spotOf 11 = .ok (.getfield 28, 3) := by decide +kernel
theorem dX1_spotOf_14 : decode cX1_spotOf 14 = .ok (.iload_n 1, 1) := by decide +kernel
theorem dX1_spotOf_15 : decode cX1_spotOf 15 = .ok (.iaload, 1) := by decide +kernel
theorem dX1_spotOf_16 : decode cX1_spotOf 16 = .ok (.if_icmp .eq 10, 3) := by decide +kernel
theorem dX1_spotOf_19 : decode cX1_spotOf 19 = .ok (.iload_n 2, 1) := by decide +kernel
theorem dX1_spotOf_20 : decode cX1_spotOf 20 = .ok (.bipush 64, 2) := by decide +kernel
theorem dX1_spotOf_22 : decode cX1_spotOf 22 = .ok (.iadd, 1) := by decide +kernel
theorem dX1_spotOf_23 : decode cX1_spotOf 23 = .ok (.goto 4, 3) := by decide +kernel
theorem dX1_spotOf_26 : decode cX1_spotOf 26 = .ok (.iload_n 2, 1) := by decide +kernel
theorem dX1_spotOf_27 : decode cX1_spotOf 27 = .ok (.ireturn, 1) := by decide +kernel
def wp_X1_spotOf (h : AH) (a0 : Nat) (x1 : Int32) (x2 : Int32) (x3 : Int32) (post : AH → Int32 → Prop) : Prop := (x3 = 0 → (post h x2)) ∧ (¬ x3 = 0 → ((ob h a0 1) ∧ (∃ rv1, aP h a0 7 = some rv1 ∧ ((ob h rv1 13) ∧ ((vp_in x1 (aL h rv1)) ∧ ((ob h a0 1) ∧ (∃ rv2, aP h a0 8 = some rv2 ∧ ((ob h rv2 13) ∧ ((vp_in x1 (aL h rv2)) ∧ (((aI h rv1 x1.toNatClampNeg) = (aI h rv2 x1.toNatClampNeg) → (post h x2)) ∧ (¬ (aI h rv1 x1.toNatClampNeg) = (aI h rv2 x1.toNatClampNeg) → (post h (x2 + (64 : Int32))))))))))))))
set_option maxRecDepth 100000 in
theorem c_X1_spotOf (G : GG) (h : AH) (a0 : Nat) (x1 : Int32) (x2 : Int32) (x3 : Int32) (post : AH → Int32 → Prop) (hw : wp_X1_spotOf h a0 x1 x2 x3 post) : MC G yX1_spotOf cX1_spotOf 4 (some .int) 0 0 h [.ref (G.1 + a0), .int x1, .int x2, .int x3] (pI post) := by
  refine MC.of (lv := [(0, .ref (G.1 + a0)), (1, .int x1), (2, .int x2), (3, .int x3)]) (by decide) (Nat.le_of_ble_eq_true rfl) rfl fun p l e R s m args below meth c C hr hnm => ?_
  unfold wp_X1_spotOf at hw
  refine r_iload_n C dX1_spotOf_0 3 rfl ?_
  refine r_if_eq C dX1_spotOf_1 26 (by decide) (fun hc => ?_) (fun hc => ?_)
  · replace hw := hw.1 hc
    refine r_iload_n C dX1_spotOf_26 2 rfl ?_
    exact r_iret C hr dX1_spotOf_27 hw
  · replace hw := hw.2 hc
    refine r_aload_n C dX1_spotOf_4 0 rfl ?_
    have hob := hw.1
    obtain ⟨rv1, hp, hw⟩ := hw.2
    refine r_getP C fl_RX1_25_1 hob hp (fun _ _ _ => rfl) dX1_spotOf_5 ?_
    refine r_iload_n C dX1_spotOf_8 1 rfl ?_
    refine r_iaload C hw.1 hw.2.1 dX1_spotOf_9 ?_
    replace hw := hw.2.2
    refine r_aload_n C dX1_spotOf_10 0 rfl ?_
    have hob := hw.1
    obtain ⟨rv2, hp, hw⟩ := hw.2
    refine r_getP C fl_RX1_28_1 hob hp (fun _ _ _ => rfl) dX1_spotOf_11 ?_
    refine r_iload_n C dX1_spotOf_14 1 rfl ?_
    refine r_iaload C hw.1 hw.2.1 dX1_spotOf_15 ?_
    replace hw := hw.2.2
    refine r_icmp_eq C dX1_spotOf_16 26 (by decide) (fun hc => ?_) (fun hc => ?_)
    · replace hw := hw.1 hc
      refine r_iload_n C dX1_spotOf_26 2 rfl ?_
      exact r_iret C hr dX1_spotOf_27 hw
    · replace hw := hw.2 hc
      refine r_iload_n C dX1_spotOf_19 2 rfl ?_
      refine r_bipush (v := 64) C dX1_spotOf_20 (by decide) ?_
      refine r_iadd C dX1_spotOf_22 ?_
      refine r_goto C dX1_spotOf_23 27 (by decide) ?_
      exact r_iret C hr dX1_spotOf_27 hw
theorem dX1_landing_0 : decode cX1_landing 0 = .ok (.iload_n 2, 1) := by decide +kernel
theorem dX1_landing_1 : decode cX1_landing 1 = .ok (.bipush 7, 2) := by decide +kernel
theorem dX1_landing_3 : decode cX1_landing 3 = .ok (.iand, 1) := by decide +kernel
theorem dX1_landing_4 : decode cX1_landing 4 = .ok (.istore 4, 2) := by decide +kernel
theorem dX1_landing_6 : decode cX1_landing 6 = .ok (.iload_n 2, 1) := by decide +kernel
theorem dX1_landing_7 : decode cX1_landing 7 = .ok (.iconst 3, 1) := by decide +kernel
theorem dX1_landing_8 : decode cX1_landing 8 = .ok (.ishr, 1) := by decide +kernel
theorem dX1_landing_9 : decode cX1_landing 9 = .ok (.bipush 7, 2) := by decide +kernel
theorem dX1_landing_11 : decode cX1_landing 11 = .ok (.iand, 1) := by decide +kernel
theorem dX1_landing_12 : decode cX1_landing 12 = .ok (.istore 5, 2) := by decide +kernel
theorem dX1_landing_14 : decode cX1_landing 14 = .ok (.iload_n 2, 1) := by decide +kernel
theorem dX1_landing_15 : decode cX1_landing 15 = .ok (.bipush 6, 2) := by decide +kernel
theorem dX1_landing_17 : decode cX1_landing 17 = .ok (.ishr, 1) := by decide +kernel
theorem dX1_landing_18 : decode cX1_landing 18 = .ok (.istore 6, 2) := by decide +kernel
theorem dX1_landing_20 : decode cX1_landing 20 = .ok (.iload_n 3, 1) := by decide +kernel
theorem dX1_landing_21 : decode cX1_landing 21 = .ok (.iconst 4, 1) := by decide +kernel
theorem dX1_landing_22 : decode cX1_landing 22 = .ok (.if_icmp .ne 75, 3) := by decide +kernel
theorem dX1_landing_25 : decode cX1_landing 25 = .ok (.aload_n 0, 1) := by decide +kernel
theorem dX1_landing_26 : decode cX1_landing 26 = .ok (.aload_n 0, 1) := by decide +kernel
theorem dX1_landing_27 : decode cX1_landing 27 = .ok (.iload_n 1, 1) := by decide +kernel
theorem dX1_landing_28 : decode cX1_landing 28 = .ok (.iload_n 2, 1) := by decide +kernel
theorem dX1_landing_29 : decode cX1_landing 29 = .ok (.invokevirtual 123, 3) := by decide +kernel
theorem dX1_landing_32 : decode cX1_landing 32 = .ok (.invokevirtual 126, 3) := by decide +kernel
theorem dX1_landing_35 : decode cX1_landing 35 = .ok (.istore 7, 2) := by decide +kernel
theorem dX1_landing_37 : decode cX1_landing 37 = .ok (.iload 7, 2) := by decide +kernel
theorem dX1_landing_39 : decode cX1_landing 39 = .ok (.ifCond .ge 6, 3) := by decide +kernel
theorem dX1_landing_42 : decode cX1_landing 42 = .ok (.bipush (-2), 2) := by decide +kernel
theorem dX1_landing_44 : decode cX1_landing 44 = .ok (.ireturn, 1) := by decide +kernel
theorem dX1_landing_45 : decode cX1_landing 45 = .ok (.iload 7, 2) := by decide +kernel
theorem dX1_landing_47 : decode cX1_landing 47 = .ok (.bipush 7, 2) := by decide +kernel
theorem dX1_landing_49 : decode cX1_landing 49 = .ok (.iand, 1) := by decide +kernel
theorem dX1_landing_50 : decode cX1_landing 50 = .ok (.iload 7, 2) := by decide +kernel
theorem dX1_landing_52 : decode cX1_landing 52 = .ok (.iconst 3, 1) := by decide +kernel
theorem dX1_landing_53 : decode cX1_landing 53 = .ok (.ishr, 1) := by decide +kernel
theorem dX1_landing_54 : decode cX1_landing 54 = .ok (.iadd, 1) := by decide +kernel
theorem dX1_landing_55 : decode cX1_landing 55 = .ok (.iload 5, 2) := by decide +kernel
theorem dX1_landing_57 : decode cX1_landing 57 = .ok (.aload_n 0, 1) := by decide +kernel
theorem dX1_landing_58 : decode cX1_landing 58 = .ok (.iload_n 1, 1) := by decide +kernel
theorem dX1_landing_59 : decode cX1_landing 59 = .ok (.iload_n 2, 1) := by decide +kernel
theorem dX1_landing_60 : decode cX1_landing 60 = .ok (.invokevirtual 105, 3) := by decide +kernel
theorem dX1_landing_63 : decode cX1_landing 63 = .ok (.iadd, 1) := by decide +kernel
theorem dX1_landing_64 : decode cX1_landing 64 = .ok (.iconst 1, 1) := by decide +kernel
theorem dX1_landing_65 : decode cX1_landing 65 = .ok (.isub, 1) := by decide +kernel
theorem dX1_landing_66 : decode cX1_landing 66 = .ok (.isub, 1) := by decide +kernel
theorem dX1_landing_67 : decode cX1_landing 67 = .ok (.istore 8, 2) := by decide +kernel
theorem dX1_landing_69 : decode cX1_landing 69 = .ok (.iload 7, 2) := by decide +kernel
theorem dX1_landing_71 : decode cX1_landing 71 = .ok (.iconst 3, 1) := by decide +kernel
theorem dX1_landing_72 : decode cX1_landing 72 = .ok (.ishr, 1) := by decide +kernel
theorem dX1_landing_73 : decode cX1_landing 73 = .ok (.iload 4, 2) := by decide +kernel
theorem dX1_landing_75 : decode cX1_landing 75 = .ok (.iadd, 1) := by decide +kernel
theorem dX1_landing_76 : decode cX1_landing 76 = .ok (.iload 7, 2) := by decide +kernel
theorem dX1_landing_78 : decode cX1_landing 78 = .ok (.bipush 7, 2) := by decide +kernel
theorem dX1_landing_80 : decode cX1_landing 80 = .ok (.iand, 1) := by decide +kernel
theorem dX1_landing_81 : decode cX1_landing 81 = .ok (.isub, 1) := by decide +kernel
theorem dX1_landing_82 : decode cX1_landing 82 = .ok (.istore 5, 2) := by decide +kernel
theorem dX1_landing_84 : decode cX1_landing 84 = .ok (.iload 8, 2) := by decide +kernel
theorem dX1_landing_86 : decode cX1_landing 86 = .ok (.istore 4, 2) := by decide +kernel
theorem dX1_landing_88 : decode cX1_landing 88 = .ok (.iconst 1, 1) := by decide +kernel
theorem dX1_landing_89 : decode cX1_landing 89 = .ok (.iload 6, 2) := by decide +kernel
theorem dX1_landing_91 : decode cX1_landing 91 = .ok (.isub, 1) := by decide +kernel
theorem dX1_landing_92 : decode cX1_landing 92 = .ok (.istore 6, 2) := by decide +kernel
theorem dX1_landing_94 : decode cX1_landing 94 = .ok (.goto 50, 3) := by decide +kernel
theorem dX1_landing_97 : decode cX1_landing 97 = .ok (.iload 4, 2) := by decide +kernel
theorem dX1_landing_99 : decode cX1_landing 99 = .ok (.iload_n 3, 1) := by decide +kernel
theorem dX1_landing_100 : decode cX1_landing 100 = .ok (.iconst 1, 1) := by decide +kernel
theorem dX1_landing_101 : decode cX1_landing 101 = .ok (.if_icmp .ne 7, 3) := by decide +kernel
theorem dX1_landing_104 : decode cX1_landing 104 = .ok (.iconst 1, 1) := by decide +kernel
theorem dX1_landing_105 : decode cX1_landing 105 = .ok (.goto 13, 3) := by decide +kernel
theorem dX1_landing_108 : decode cX1_landing 108 = .ok (.iload_n 3, 1) := by decide +kernel
theorem dX1_landing_109 : decode cX1_landing 109 = .ok (.iconst 3, 1) := by decide +kernel
theorem dX1_landing_110 : decode cX1_landing 110 = .ok (.if_icmp .ne 7, 3) := by decide +kernel
theorem dX1_landing_113 : decode cX1_landing 113 = .ok (.iconst (-1), 1) := by decide +kernel
theorem dX1_landing_114 : decode cX1_landing 114 = .ok (.goto 4, 3) := by decide +kernel
theorem dX1_landing_117 : decode cX1_landing 117 = .ok (.iconst 0, 1) := by decide +kernel
theorem dX1_landing_118 : decode cX1_landing 118 = .ok (.iadd, 1) := by decide +kernel
theorem dX1_landing_119 : decode cX1_landing 119 = .ok (.istore 4, 2) := by decide +kernel
theorem dX1_landing_121 : decode cX1_landing 121 = .ok (.iload 5, 2) := by decide +kernel
theorem dX1_landing_123 : decode cX1_landing 123 = .ok (.iload_n 3, 1) := by decide +kernel
theorem dX1_landing_124 : decode cX1_landing 124 = .ok (.iconst 2, 1) := by decide +kernel
theorem dX1_landing_125 : decode cX1_landing 125 = .ok (.if_icmp .ne 7, 3) := by decide +kernel
theorem dX1_landing_128 : decode cX1_landing 128 = .ok (.iconst 1, 1) := by decide +kernel
theorem dX1_landing_129 : decode cX1_landing 129 = .ok (.goto 12, 3) := by decide +kernel
theorem dX1_landing_132 : decode cX1_landing 132 = .ok (.iload_n 3, 1) := by decide +kernel
theorem dX1_landing_133 : decode cX1_landing 133 = .ok (.ifCond .ne 7, 3) := by decide +kernel
theorem dX1_landing_136 : decode cX1_landing 136 = .ok (.iconst (-1), 1) := by decide +kernel
theorem dX1_landing_137 : decode cX1_landing 137 = .ok (.goto 4, 3) := by decide +kernel
theorem dX1_landing_140 : decode cX1_landing 140 = .ok (.iconst 0, 1) := by decide +kernel
theorem dX1_landing_141 : decode cX1_landing 141 = .ok (.iadd, 1) := by decide +kernel
theorem dX1_landing_142 : decode cX1_landing 142 = .ok (.istore 5, 2) := by decide +kernel
theorem dX1_landing_144 : decode cX1_landing 144 = .ok (.aload_n 0, 1) := by decide +kernel
theorem dX1_landing_145 : decode cX1_landing 145 = .ok (.iload 4, 2) := by decide +kernel
theorem dX1_landing_147 : decode cX1_landing 147 = .ok (.iload 5, 2) := by decide +kernel
theorem dX1_landing_149 : decode cX1_landing 149 = .ok (.invokevirtual 130, 3) := by decide +kernel
theorem dX1_landing_152 : decode cX1_landing 152 = .ok (.ifCond .ne 6, 3) := by decide +kernel
theorem dX1_landing_155 : decode cX1_landing 155 = .ok (.bipush (-3), 2) := by decide +kernel
theorem dX1_landing_157 : decode cX1_landing 157 = .ok (.ireturn, 1) := by decide +kernel
theorem dX1_landing_158 : decode cX1_landing 158 = .ok (.aload_n 0, 1) := by decide +kernel
theorem dX1_landing_159 : decode cX1_landing 159 = .ok (.iload_n 1, 1) := by decide +kernel
theorem dX1_landing_160 : decode cX1_landing 160 = .ok (.bipush 8, 2) := by decide +kernel
theorem dX1_landing_162 : decode cX1_landing 162 = .ok (.iload 5, 2) := by decide +kernel
theorem dX1_landing_164 : decode cX1_landing 164 = .ok (.imul, 1) := by decide +kernel
theorem dX1_landing_165 : decode cX1_landing 165 = .ok (.iload 4, 2) := by decide +kernel
theorem dX1_landing_167 : decode cX1_landing 167 = .ok (.iadd, 1) := by decide +kernel
theorem dX1_landing_168 : decode cX1_landing 168 = .ok (.iload 6, 2) := by decide +kernel
theorem dX1_landing_170 : decode cX1_landing 170 = .ok (.invokevirtual 134, 3) := by decide +kernel
theorem dX1_landing_173 : decode cX1_landing 173 = .ok (.istore 7, 2) := by decide +kernel
theorem dX1_landing_175 : decode cX1_landing 175 = .ok (.aload_n 0, 1) := by decide +kernel
theorem dX1_landing_176 : decode cX1_landing 176 = .ok (.iload_n 1, 1) := by decide +kernel
theorem dX1_landing_177 : decode cX1_landing 177 = .ok (.iload 7, 2) := by decide +kernel
theorem dX1_landing_179 : decode cX1_landing 179 = .ok (.invokevirtual 138, 3) := by decide +kernel
theorem dX1_landing_182 : decode cX1_landing 182 = .ok (.ifCond .eq 8, 3) := by decide +kernel
theorem dX1_landing_185 : decode cX1_landing 185 = .ok (.iload 7, 2) := by decide +kernel
theorem dX1_landing_187 : decode cX1_landing 187 = .ok (.goto 5, 3) := by decide +kernel
theorem dX1_landing_190 : decode cX1_landing 190 = .ok (.bipush (-3), 2) := by decide +kernel
theorem dX1_landing_192 : decode cX1_landing 192 = .ok (.ireturn, 1) := by decide +kernel
def wb_X1_landing_144  (h : AH) (al0 : Nat) (xl1 : Int32) (xl4 : Int32) (xl5 : Int32) (xl6 : Int32)  (post : AH → Int32 → Prop) : Prop := (ob h al0 1) ∧ wp_X1_hasCell h al0 xl4 xl5 (fun hv1 iv2 => (¬ iv2 = 0 → ((ob hv1 al0 1) ∧ wp_X1_spotOf hv1 al0 xl1 (((8 : Int32) * xl5) + xl4) xl6 (fun hv3 iv4 => (ob hv3 al0 1) ∧ wp_X1_holds hv3 al0 xl1 iv4 (fun hv5 iv6 => (iv6 = 0 → (post hv5 (-3))) ∧ (¬ iv6 = 0 → (post hv5 iv4)))))) ∧ (iv2 = 0 → (post hv1 (-3))))
set_option maxRecDepth 100000 in
theorem tb_X1_landing_144 {G : GG} {p : Program} {l : Launch} {e : Env} {R : Room} {s : State} {m : MethodId} {args : Array Value} {below : List Frame} {meth : Method} {c : Code} {n0 s0 : Nat} {post : AH → Int32 → Prop} (C : Cx G p R s m args meth c 9 cX1_landing RX1 n0 s0 2 48) (hr : meth.sig.returnType = (some .int))   {h : AH} {al0 : Nat} {xl1 : Int32} {xl4 : Int32} {xl5 : Int32} {xl6 : Int32}  (hw : wb_X1_landing_144  h al0 xl1 xl4 xl5 xl6 post) : AW G p l e R s m args below meth c 9 (QM G (pI post) args s below n0 s0) 144 [(0, .ref (G.1 + al0)), (1, .int xl1), (4, .int xl4), (5, .int xl5), (6, .int xl6)] [] h := by
  unfold wb_X1_landing_144 at hw
  refine r_aload_n C dX1_landing_144 0 rfl ?_
  refine r_iload C dX1_landing_145 2 rfl ?_
  refine r_iload C dX1_landing_147 3 rfl ?_
  have hob := hw.1
  replace hw := hw.2
  refine r_callV C (As := [.int xl4, .int xl5]) (rest := []) (c_X1_hasCell G h al0 xl4 xl5 _ hw) yl_X1_hasCell (gm4 (List.mem_of_getElem? (i := 177) rfl) rfl) (gm4 (List.mem_of_getElem? (i := 87) rfl) rfl) (ci := 1) rfl (by decide) (gm4 (List.mem_of_getElem? (i := 88) rfl) rfl) hob (by decide) rfl (Nat.le_of_ble_eq_true rfl) dX1_landing_149 rfl (kI fun hv1 iv2 hw => ?_)
  refine r_if_ne C dX1_landing_152 158 (by decide) (fun hc => ?_) (fun hc => ?_)
  · replace hw := hw.1 hc
    refine r_aload_n C dX1_landing_158 0 rfl ?_
    refine r_iload_n C dX1_landing_159 1 rfl ?_
    refine r_bipush (v := 8) C dX1_landing_160 (by decide) ?_
    refine r_iload C dX1_landing_162 3 rfl ?_
    refine r_imul C dX1_landing_164 ?_
    refine r_iload C dX1_landing_165 2 rfl ?_
    refine r_iadd C dX1_landing_167 ?_
    refine r_iload C dX1_landing_168 4 rfl ?_
    have hob := hw.1
    replace hw := hw.2
    refine r_callV C (As := [.int xl1, .int (((8 : Int32) * xl5) + xl4), .int xl6]) (rest := []) (c_X1_spotOf G hv1 al0 xl1 (((8 : Int32) * xl5) + xl4) xl6 _ hw) yl_X1_spotOf (gm4 (List.mem_of_getElem? (i := 178) rfl) rfl) (gm4 (List.mem_of_getElem? (i := 108) rfl) rfl) (ci := 1) rfl (by decide) (gm4 (List.mem_of_getElem? (i := 109) rfl) rfl) hob (by decide) rfl (Nat.le_of_ble_eq_true rfl) dX1_landing_170 rfl (kI fun hv3 iv4 hw => ?_)
    refine r_istore C dX1_landing_173 [(7, .int iv4), (0, .ref (G.1 + al0)), (1, .int xl1), (4, .int xl4), (5, .int xl5), (6, .int xl6)] (by decide) rfl ?_
    refine r_aload_n C dX1_landing_175 1 rfl ?_
    refine r_iload_n C dX1_landing_176 2 rfl ?_
    refine r_iload C dX1_landing_177 0 rfl ?_
    have hob := hw.1
    replace hw := hw.2
    refine r_callV C (As := [.int xl1, .int iv4]) (rest := []) (c_X1_holds G hv3 al0 xl1 iv4 _ hw) yl_X1_holds (gm4 (List.mem_of_getElem? (i := 179) rfl) rfl) (gm3 (List.mem_of_getElem? (i := 207) rfl) rfl) (ci := 1) rfl (by decide) (gm3 (List.mem_of_getElem? (i := 208) rfl) rfl) hob (by decide) rfl (Nat.le_of_ble_eq_true rfl) dX1_landing_179 rfl (kI fun hv5 iv6 hw => ?_)
    refine r_if_eq C dX1_landing_182 190 (by decide) (fun hc => ?_) (fun hc => ?_)
    · replace hw := hw.1 hc
      refine r_bipush (v := (-3)) C dX1_landing_190 (by decide) ?_
      exact r_iret C hr dX1_landing_192 hw
    · replace hw := hw.2 hc
      refine r_iload C dX1_landing_185 0 rfl ?_
      refine r_goto C dX1_landing_187 192 (by decide) ?_
      exact r_iret C hr dX1_landing_192 hw
  · replace hw := hw.2 hc
    refine r_bipush (v := (-3)) C dX1_landing_155 (by decide) ?_
    exact r_iret C hr dX1_landing_157 hw
def wb_X1_landing_141  (h : AH) (al0 : Nat) (xl1 : Int32) (xl4 : Int32) (xl6 : Int32) (xs0 : Int32) (xs1 : Int32) (post : AH → Int32 → Prop) : Prop := ∀ iv1 : Int32, iv1 = xs1 + xs0 → (wb_X1_landing_144  h al0 xl1 xl4 iv1 xl6 post)
set_option maxRecDepth 100000 in
theorem tb_X1_landing_141 {G : GG} {p : Program} {l : Launch} {e : Env} {R : Room} {s : State} {m : MethodId} {args : Array Value} {below : List Frame} {meth : Method} {c : Code} {n0 s0 : Nat} {post : AH → Int32 → Prop} (C : Cx G p R s m args meth c 9 cX1_landing RX1 n0 s0 2 48) (hr : meth.sig.returnType = (some .int))   {h : AH} {al0 : Nat} {xl1 : Int32} {xl4 : Int32} {xl6 : Int32} {xs0 : Int32} {xs1 : Int32} (hw : wb_X1_landing_141  h al0 xl1 xl4 xl6 xs0 xs1 post) : AW G p l e R s m args below meth c 9 (QM G (pI post) args s below n0 s0) 141 [(0, .ref (G.1 + al0)), (1, .int xl1), (4, .int xl4), (6, .int xl6)] [.int xs0, .int xs1] h := by
  unfold wb_X1_landing_141 at hw
  refine r_iadd C dX1_landing_141 ?_
  refine r_topi fun iv1 eiv1 => ?_
  replace hw := hw iv1 eiv1
  refine r_istore C dX1_landing_142 [(5, .int iv1), (0, .ref (G.1 + al0)), (1, .int xl1), (4, .int xl4), (6, .int xl6)] (by decide) rfl ?_
  refine r_sub [1, 2, 3, 0, 4] rfl ?_
  exact tb_X1_landing_144 C hr  hw
def wb_X1_landing_118  (h : AH) (al0 : Nat) (xl1 : Int32) (xl3 : Int32) (xl5 : Int32) (xl6 : Int32) (xs0 : Int32) (xs1 : Int32) (post : AH → Int32 → Prop) : Prop := ∀ iv1 : Int32, iv1 = xs1 + xs0 → ((¬ xl3 = 2 → ((¬ xl3 = 0 → (wb_X1_landing_141  h al0 xl1 iv1 xl6 0 xl5 post)) ∧ (xl3 = 0 → (wb_X1_landing_141  h al0 xl1 iv1 xl6 (-1) xl5 post)))) ∧ (xl3 = 2 → (wb_X1_landing_141  h al0 xl1 iv1 xl6 1 xl5 post)))
set_option maxRecDepth 100000 in
theorem tb_X1_landing_118 {G : GG} {p : Program} {l : Launch} {e : Env} {R : Room} {s : State} {m : MethodId} {args : Array Value} {below : List Frame} {meth : Method} {c : Code} {n0 s0 : Nat} {post : AH → Int32 → Prop} (C : Cx G p R s m args meth c 9 cX1_landing RX1 n0 s0 2 48) (hr : meth.sig.returnType = (some .int))   {h : AH} {al0 : Nat} {xl1 : Int32} {xl3 : Int32} {xl5 : Int32} {xl6 : Int32} {xs0 : Int32} {xs1 : Int32} (hw : wb_X1_landing_118  h al0 xl1 xl3 xl5 xl6 xs0 xs1 post) : AW G p l e R s m args below meth c 9 (QM G (pI post) args s below n0 s0) 118 [(0, .ref (G.1 + al0)), (1, .int xl1), (3, .int xl3), (5, .int xl5), (6, .int xl6)] [.int xs0, .int xs1] h := by
  unfold wb_X1_landing_118 at hw
  refine r_iadd C dX1_landing_118 ?_
  refine r_topi fun iv1 eiv1 => ?_
  replace hw := hw iv1 eiv1
  refine r_istore C dX1_landing_119 [(4, .int iv1), (0, .ref (G.1 + al0)), (1, .int xl1), (3, .int xl3), (5, .int xl5), (6, .int xl6)] (by decide) rfl ?_
  refine r_iload C dX1_landing_121 4 rfl ?_
  refine r_iload_n C dX1_landing_123 3 rfl ?_
  refine r_iconst (v := 2) C dX1_landing_124 (by decide) ?_
  refine r_icmp_ne C dX1_landing_125 132 (by decide) (fun hc => ?_) (fun hc => ?_)
  · replace hw := hw.1 hc
    refine r_iload_n C dX1_landing_132 3 rfl ?_
    refine r_if_ne C dX1_landing_133 140 (by decide) (fun hc => ?_) (fun hc => ?_)
    · replace hw := hw.1 hc
      refine r_iconst (v := 0) C dX1_landing_140 (by decide) ?_
      refine r_sub [1, 2, 0, 5] rfl ?_
      exact tb_X1_landing_141 C hr  hw
    · replace hw := hw.2 hc
      refine r_iconst (v := (-1)) C dX1_landing_136 (by decide) ?_
      refine r_goto C dX1_landing_137 141 (by decide) ?_
      refine r_sub [1, 2, 0, 5] rfl ?_
      exact tb_X1_landing_141 C hr  hw
  · replace hw := hw.2 hc
    refine r_iconst (v := 1) C dX1_landing_128 (by decide) ?_
    refine r_goto C dX1_landing_129 141 (by decide) ?_
    refine r_sub [1, 2, 0, 5] rfl ?_
    exact tb_X1_landing_141 C hr  hw
def wp_X1_landing (h : AH) (a0 : Nat) (x1 : Int32) (x2 : Int32) (x3 : Int32) (post : AH → Int32 → Prop) : Prop := ∀ iv1 : Int32, iv1 = x2 &&& (7 : Int32) → (∀ iv2 : Int32, iv2 = (x2 >>> ((3 : Int32) &&& 31)) &&& (7 : Int32) → (∀ iv3 : Int32, iv3 = x2 >>> ((6 : Int32) &&& 31) → ((¬ x3 = 4 → ((¬ x3 = 1 → ((¬ x3 = 3 → (wb_X1_landing_118  h a0 x1 x3 iv2 iv3 0 iv1 post)) ∧ (x3 = 3 → (wb_X1_landing_118  h a0 x1 x3 iv2 iv3 (-1) iv1 post)))) ∧ (x3 = 1 → (wb_X1_landing_118  h a0 x1 x3 iv2 iv3 1 iv1 post)))) ∧ (x3 = 4 → ((ob h a0 1) ∧ wp_X1_coverAt h a0 x1 x2 (fun hv4 jv5 => (ob hv4 a0 1) ∧ wp_X1_poleUnder hv4 a0 jv5 (fun hv6 iv7 => (0 ≤ iv7 → ((ob hv6 a0 1) ∧ wp_X1_highAt hv6 a0 x1 x2 (fun hv8 iv9 => ∀ iv10 : Int32, iv10 = ((iv7 &&& (7 : Int32)) + (iv7 >>> ((3 : Int32) &&& 31))) - ((iv2 + iv9) - (1 : Int32)) → (∀ iv11 : Int32, iv11 = ((iv7 >>> ((3 : Int32) &&& 31)) + iv1) - (iv7 &&& (7 : Int32)) → (∀ iv12 : Int32, iv12 = (1 : Int32) - iv3 → (wb_X1_landing_144  hv8 a0 x1 iv10 iv11 iv12 post)))))) ∧ (¬ 0 ≤ iv7 → (post hv6 (-2))))))))))
set_option maxRecDepth 100000 in
theorem c_X1_landing (G : GG) (h : AH) (a0 : Nat) (x1 : Int32) (x2 : Int32) (x3 : Int32) (post : AH → Int32 → Prop) (hw : wp_X1_landing h a0 x1 x2 x3 post) : MC G yX1_landing cX1_landing 9 (some .int) 2 48 h [.ref (G.1 + a0), .int x1, .int x2, .int x3] (pI post) := by
  refine MC.of (lv := [(0, .ref (G.1 + a0)), (1, .int x1), (2, .int x2), (3, .int x3)]) (by decide) (Nat.le_of_ble_eq_true rfl) rfl fun p l e R s m args below meth c C hr hnm => ?_
  unfold wp_X1_landing at hw
  refine r_iload_n C dX1_landing_0 2 rfl ?_
  refine r_bipush (v := 7) C dX1_landing_1 (by decide) ?_
  refine r_iand C dX1_landing_3 ?_
  refine r_topi fun iv1 eiv1 => ?_
  replace hw := hw iv1 eiv1
  refine r_istore C dX1_landing_4 [(4, .int iv1), (0, .ref (G.1 + a0)), (1, .int x1), (2, .int x2), (3, .int x3)] (by decide) rfl ?_
  refine r_iload_n C dX1_landing_6 3 rfl ?_
  refine r_iconst (v := 3) C dX1_landing_7 (by decide) ?_
  refine r_ishr C dX1_landing_8 ?_
  refine r_bipush (v := 7) C dX1_landing_9 (by decide) ?_
  refine r_iand C dX1_landing_11 ?_
  refine r_topi fun iv2 eiv2 => ?_
  replace hw := hw iv2 eiv2
  refine r_istore C dX1_landing_12 [(5, .int iv2), (4, .int iv1), (0, .ref (G.1 + a0)), (1, .int x1), (2, .int x2), (3, .int x3)] (by decide) rfl ?_
  refine r_iload_n C dX1_landing_14 4 rfl ?_
  refine r_bipush (v := 6) C dX1_landing_15 (by decide) ?_
  refine r_ishr C dX1_landing_17 ?_
  refine r_topi fun iv3 eiv3 => ?_
  replace hw := hw iv3 eiv3
  refine r_istore C dX1_landing_18 [(6, .int iv3), (5, .int iv2), (4, .int iv1), (0, .ref (G.1 + a0)), (1, .int x1), (2, .int x2), (3, .int x3)] (by decide) rfl ?_
  refine r_iload_n C dX1_landing_20 6 rfl ?_
  refine r_iconst (v := 4) C dX1_landing_21 (by decide) ?_
  refine r_icmp_ne C dX1_landing_22 97 (by decide) (fun hc => ?_) (fun hc => ?_)
  · replace hw := hw.1 hc
    refine r_iload C dX1_landing_97 2 rfl ?_
    refine r_iload_n C dX1_landing_99 6 rfl ?_
    refine r_iconst (v := 1) C dX1_landing_100 (by decide) ?_
    refine r_icmp_ne C dX1_landing_101 108 (by decide) (fun hc => ?_) (fun hc => ?_)
    · replace hw := hw.1 hc
      refine r_iload_n C dX1_landing_108 6 rfl ?_
      refine r_iconst (v := 3) C dX1_landing_109 (by decide) ?_
      refine r_icmp_ne C dX1_landing_110 117 (by decide) (fun hc => ?_) (fun hc => ?_)
      · replace hw := hw.1 hc
        refine r_iconst (v := 0) C dX1_landing_117 (by decide) ?_
        refine r_sub [3, 4, 6, 1, 0] rfl ?_
        exact tb_X1_landing_118 C hr  hw
      · replace hw := hw.2 hc
        refine r_iconst (v := (-1)) C dX1_landing_113 (by decide) ?_
        refine r_goto C dX1_landing_114 118 (by decide) ?_
        refine r_sub [3, 4, 6, 1, 0] rfl ?_
        exact tb_X1_landing_118 C hr  hw
    · replace hw := hw.2 hc
      refine r_iconst (v := 1) C dX1_landing_104 (by decide) ?_
      refine r_goto C dX1_landing_105 118 (by decide) ?_
      refine r_sub [3, 4, 6, 1, 0] rfl ?_
      exact tb_X1_landing_118 C hr  hw
  · replace hw := hw.2 hc
    refine r_aload_n C dX1_landing_25 3 rfl ?_
    refine r_aload_n C dX1_landing_26 3 rfl ?_
    refine r_iload_n C dX1_landing_27 4 rfl ?_
    refine r_iload_n C dX1_landing_28 5 rfl ?_
    have hob := hw.1
    replace hw := hw.2
    refine r_callV C (As := [.int x1, .int x2]) (rest := [.ref (G.1 + a0)]) (c_X1_coverAt G h a0 x1 x2 _ hw) yl_X1_coverAt (gm4 (List.mem_of_getElem? (i := 172) rfl) rfl) (gm3 (List.mem_of_getElem? (i := 223) rfl) rfl) (ci := 1) rfl (by decide) (gm3 (List.mem_of_getElem? (i := 224) rfl) rfl) hob (by decide) rfl (Nat.le_of_ble_eq_true rfl) dX1_landing_29 rfl (kJ fun hv4 jv5 hw => ?_)
    have hob := hw.1
    replace hw := hw.2
    refine r_callV C (As := [.long jv5]) (rest := []) (c_X1_poleUnder G hv4 a0 jv5 _ hw) yl_X1_poleUnder (gm4 (List.mem_of_getElem? (i := 173) rfl) rfl) (gm4 (List.mem_of_getElem? (i := 175) rfl) rfl) (ci := 1) rfl (by decide) (gsel (List.mem_of_getElem? (i := 17) rfl)) hob (by decide) rfl (Nat.le_of_ble_eq_true rfl) dX1_landing_32 rfl (kI fun hv6 iv7 hw => ?_)
    refine r_istore C dX1_landing_35 [(7, .int iv7), (6, .int iv3), (5, .int iv2), (4, .int iv1), (0, .ref (G.1 + a0)), (1, .int x1), (2, .int x2), (3, .int x3)] (by decide) rfl ?_
    refine r_iload C dX1_landing_37 0 rfl ?_
    refine r_if_ge C dX1_landing_39 45 (by decide) (fun hc => ?_) (fun hc => ?_)
    · replace hw := hw.1 hc
      refine r_iload C dX1_landing_45 0 rfl ?_
      refine r_bipush (v := 7) C dX1_landing_47 (by decide) ?_
      refine r_iand C dX1_landing_49 ?_
      refine r_iload C dX1_landing_50 0 rfl ?_
      refine r_iconst (v := 3) C dX1_landing_52 (by decide) ?_
      refine r_ishr C dX1_landing_53 ?_
      refine r_iadd C dX1_landing_54 ?_
      refine r_iload C dX1_landing_55 2 rfl ?_
      refine r_aload_n C dX1_landing_57 4 rfl ?_
      refine r_iload_n C dX1_landing_58 5 rfl ?_
      refine r_iload_n C dX1_landing_59 6 rfl ?_
      have hob := hw.1
      replace hw := hw.2
      refine r_callV C (As := [.int x1, .int x2]) (rest := [.int iv2, .int ((iv7 &&& (7 : Int32)) + (iv7 >>> ((3 : Int32) &&& 31)))]) (c_X1_highAt G hv6 a0 x1 x2 _ hw) yl_X1_highAt (gm3 (List.mem_of_getElem? (i := 214) rfl) rfl) (gm3 (List.mem_of_getElem? (i := 215) rfl) rfl) (ci := 1) rfl (by decide) (gm3 (List.mem_of_getElem? (i := 216) rfl) rfl) hob (by decide) rfl (Nat.le_of_ble_eq_true rfl) dX1_landing_60 rfl (kI fun hv8 iv9 hw => ?_)
      refine r_iadd C dX1_landing_63 ?_
      refine r_iconst (v := 1) C dX1_landing_64 (by decide) ?_
      refine r_isub C dX1_landing_65 ?_
      refine r_isub C dX1_landing_66 ?_
      refine r_topi fun iv10 eiv10 => ?_
      replace hw := hw iv10 eiv10
      refine r_istore C dX1_landing_67 [(8, .int iv10), (7, .int iv7), (6, .int iv3), (5, .int iv2), (4, .int iv1), (0, .ref (G.1 + a0)), (1, .int x1), (2, .int x2), (3, .int x3)] (by decide) rfl ?_
      refine r_iload C dX1_landing_69 1 rfl ?_
      refine r_iconst (v := 3) C dX1_landing_71 (by decide) ?_
      refine r_ishr C dX1_landing_72 ?_
      refine r_iload C dX1_landing_73 4 rfl ?_
      refine r_iadd C dX1_landing_75 ?_
      refine r_iload C dX1_landing_76 1 rfl ?_
      refine r_bipush (v := 7) C dX1_landing_78 (by decide) ?_
      refine r_iand C dX1_landing_80 ?_
      refine r_isub C dX1_landing_81 ?_
      refine r_topi fun iv11 eiv11 => ?_
      replace hw := hw iv11 eiv11
      refine r_istore C dX1_landing_82 [(5, .int iv11), (8, .int iv10), (7, .int iv7), (6, .int iv3), (4, .int iv1), (0, .ref (G.1 + a0)), (1, .int x1), (2, .int x2), (3, .int x3)] (by decide) rfl ?_
      refine r_iload C dX1_landing_84 1 rfl ?_
      refine r_istore C dX1_landing_86 [(4, .int iv10), (5, .int iv11), (8, .int iv10), (7, .int iv7), (6, .int iv3), (0, .ref (G.1 + a0)), (1, .int x1), (2, .int x2), (3, .int x3)] (by decide) rfl ?_
      refine r_iconst (v := 1) C dX1_landing_88 (by decide) ?_
      refine r_iload C dX1_landing_89 4 rfl ?_
      refine r_isub C dX1_landing_91 ?_
      refine r_topi fun iv12 eiv12 => ?_
      replace hw := hw iv12 eiv12
      refine r_istore C dX1_landing_92 [(6, .int iv12), (4, .int iv10), (5, .int iv11), (8, .int iv10), (7, .int iv7), (0, .ref (G.1 + a0)), (1, .int x1), (2, .int x2), (3, .int x3)] (by decide) rfl ?_
      refine r_goto C dX1_landing_94 144 (by decide) ?_
      refine r_sub [5, 6, 1, 2, 0] rfl ?_
      exact tb_X1_landing_144 C hr  hw
    · replace hw := hw.2 hc
      refine r_bipush (v := (-2)) C dX1_landing_42 (by decide) ?_
      exact r_iret C hr dX1_landing_44 hw
theorem dX0_onwardFrom_0 : decode cX0_onwardFrom 0 = .ok (.iload_n 1, 1) := by decide +kernel
theorem dX0_onwardFrom_1 : decode cX0_onwardFrom 1 = .ok (.bipush 40, 2) := by decide +kernel
theorem dX0_onwardFrom_3 : decode cX0_onwardFrom 3 = .ok (.imul, 1) := by decide +kernel
theorem dX0_onwardFrom_4 : decode cX0_onwardFrom 4 = .ok (.iload_n 2, 1) := by decide +kernel
theorem dX0_onwardFrom_5 : decode cX0_onwardFrom 5 = .ok (.iadd, 1) := by decide +kernel
theorem dX0_onwardFrom_6 : decode cX0_onwardFrom 6 = .ok (.istore 5, 2) := by decide +kernel
theorem dX0_onwardFrom_8 : decode cX0_onwardFrom 8 = .ok (.aload_n 0, 1) := by decide +kernel
theorem dX0_onwardFrom_9 : decode cX0_onwardFrom 9 = .ok (.getfield 37, 3) := by decide +kernel
theorem dX0_onwardFrom_12 : decode cX0_onwardFrom 12 = .ok (.iload_n 1, 1) := by decide +kernel
theorem dX0_onwardFrom_13 : decode cX0_onwardFrom 13 = .ok (.aload_n 0, 1) := by decide +kernel
theorem dX0_onwardFrom_14 : decode cX0_onwardFrom 14 = .ok (.getfield 18, 3) := by decide +kernel
theorem dX0_onwardFrom_17 : decode cX0_onwardFrom 17 = .ok (.iload 5, 2) := by decide +kernel
theorem dX0_onwardFrom_19 : decode cX0_onwardFrom 19 = .ok (.laload, 1) := by decide +kernel
theorem dX0_onwardFrom_20 : decode cX0_onwardFrom 20 = .ok (.iload 4, 2) := by decide +kernel
theorem dX0_onwardFrom_22 : decode cX0_onwardFrom 22 = .ok (.invokevirtual 118, 3) := by decide +kernel
theorem dX0_onwardFrom_25 : decode cX0_onwardFrom 25 = .ok (.ifCond .ne 5, 3) := by decide +kernel
theorem dX0_onwardFrom_28 : decode cX0_onwardFrom 28 = .ok (.iconst (-1), 1) := by decide +kernel
theorem dX0_onwardFrom_29 : decode cX0_onwardFrom 29 = .ok (.ireturn, 1) := by decide +kernel
theorem dX0_onwardFrom_30 : decode cX0_onwardFrom 30 = .ok (.aload_n 0, 1) := by decide +kernel
theorem dX0_onwardFrom_31 : decode cX0_onwardFrom 31 = .ok (.getfield 37, 3) := by decide +kernel
theorem dX0_onwardFrom_34 : decode cX0_onwardFrom 34 = .ok (.iload_n 1, 1) := by decide +kernel
theorem dX0_onwardFrom_35 : decode cX0_onwardFrom 35 = .ok (.aload_n 0, 1) := by decide +kernel
theorem dX0_onwardFrom_36 : decode cX0_onwardFrom 36 = .ok (.getfield 15, 3) := by decide +kernel
theorem dX0_onwardFrom_39 : decode cX0_onwardFrom 39 = .ok (.iload 5, 2) := by decide +kernel
theorem dX0_onwardFrom_41 : decode cX0_onwardFrom 41 = .ok (.iaload, 1) := by decide +kernel
theorem dX0_onwardFrom_42 : decode cX0_onwardFrom 42 = .ok (.iload_n 3, 1) := by decide +kernel
theorem dX0_onwardFrom_43 : decode cX0_onwardFrom 43 = .ok (.invokevirtual 122, 3) := by decide +kernel
theorem dX0_onwardFrom_46 : decode cX0_onwardFrom 46 = .ok (.istore 6, 2) := by decide +kernel
theorem dX0_onwardFrom_48 : decode cX0_onwardFrom 48 = .ok (.iload 6, 2) := by decide +kernel
theorem dX0_onwardFrom_50 : decode cX0_onwardFrom 50 = .ok (.ifCond .lt 26, 3) := by decide +kernel
theorem dX0_onwardFrom_53 : decode cX0_onwardFrom 53 = .ok (.aload_n 0, 1) := by decide +kernel
theorem dX0_onwardFrom_54 : decode cX0_onwardFrom 54 = .ok (.getfield 37, 3) := by decide +kernel
theorem dX0_onwardFrom_57 : decode cX0_onwardFrom 57 = .ok (.iload_n 1, 1) := by decide +kernel
theorem dX0_onwardFrom_58 : decode cX0_onwardFrom 58 = .ok (.aload_n 0, 1) := by decide +kernel
theorem dX0_onwardFrom_59 : decode cX0_onwardFrom 59 = .ok (.getfield 37, 3) := by decide +kernel
theorem dX0_onwardFrom_62 : decode cX0_onwardFrom 62 = .ok (.iload_n 1, 1) := by decide +kernel
theorem dX0_onwardFrom_63 : decode cX0_onwardFrom 63 = .ok (.iload 6, 2) := by decide +kernel
theorem dX0_onwardFrom_65 : decode cX0_onwardFrom 65 = .ok (.invokevirtual 64, 3) := by decide +kernel
theorem dX0_onwardFrom_68 : decode cX0_onwardFrom 68 = .ok (.iload 4, 2) := by decide +kernel
theorem dX0_onwardFrom_70 : decode cX0_onwardFrom 70 = .ok (.invokevirtual 118, 3) := by decide +kernel
theorem dX0_onwardFrom_73 : decode cX0_onwardFrom 73 = .ok (.ifCond .ne 5, 3) := by decide +kernel
theorem dX0_onwardFrom_76 : decode cX0_onwardFrom 76 = .ok (.iconst (-1), 1) := by decide +kernel
theorem dX0_onwardFrom_77 : decode cX0_onwardFrom 77 = .ok (.ireturn, 1) := by decide +kernel
theorem dX0_onwardFrom_78 : decode cX0_onwardFrom 78 = .ok (.aload_n 0, 1) := by decide +kernel
theorem dX0_onwardFrom_79 : decode cX0_onwardFrom 79 = .ok (.getfield 22, 3) := by decide +kernel
theorem dX0_onwardFrom_82 : decode cX0_onwardFrom 82 = .ok (.iload_n 1, 1) := by decide +kernel
theorem dX0_onwardFrom_83 : decode cX0_onwardFrom 83 = .ok (.sipush 128, 3) := by decide +kernel
theorem dX0_onwardFrom_86 : decode cX0_onwardFrom 86 = .ok (.imul, 1) := by decide +kernel
theorem dX0_onwardFrom_87 : decode cX0_onwardFrom 87 = .ok (.iload 6, 2) := by decide +kernel
theorem dX0_onwardFrom_89 : decode cX0_onwardFrom 89 = .ok (.iadd, 1) := by decide +kernel
theorem dX0_onwardFrom_90 : decode cX0_onwardFrom 90 = .ok (.iaload, 1) := by decide +kernel
theorem dX0_onwardFrom_91 : decode cX0_onwardFrom 91 = .ok (.ireturn, 1) := by decide +kernel
def wp_X0_onwardFrom (h : AH) (a0 : Nat) (x1 : Int32) (x2 : Int32) (x3 : Int32) (x4 : Int32) (post : AH → Int32 → Prop) : Prop := ∀ iv1 : Int32, iv1 = (x1 * (40 : Int32)) + x2 → ((ob h a0 0) ∧ (∃ rv2, aP h a0 0 = some rv2 ∧ ((ob h a0 0) ∧ (∃ rv3, aP h a0 3 = some rv3 ∧ ((ob h rv3 14) ∧ ((vp_in iv1 (aL h rv3)) ∧ ((ob h rv2 1) ∧ wp_X1_carries h rv2 x1 (aJ h rv3 iv1.toNatClampNeg) x4 (fun hv4 iv5 => (¬ iv5 = 0 → ((ob hv4 a0 0) ∧ (∃ rv6, aP hv4 a0 0 = some rv6 ∧ ((ob hv4 a0 0) ∧ (∃ rv7, aP hv4 a0 2 = some rv7 ∧ ((ob hv4 rv7 13) ∧ ((vp_in iv1 (aL hv4 rv7)) ∧ ((ob hv4 rv6 1) ∧ wp_X1_landing hv4 rv6 x1 (aI hv4 rv7 iv1.toNatClampNeg) x3 (fun hv8 iv9 => (iv9 < 0 → (post hv8 (-1))) ∧ (¬ iv9 < 0 → ((ob hv8 a0 0) ∧ (∃ rv10, aP hv8 a0 0 = some rv10 ∧ ((ob hv8 a0 0) ∧ (∃ rv11, aP hv8 a0 0 = some rv11 ∧ ((ob hv8 rv11 1) ∧ wp_X1_coverAt hv8 rv11 x1 iv9 (fun hv12 jv13 => (ob hv12 rv10 1) ∧ wp_X1_carries hv12 rv10 x1 jv13 x4 (fun hv14 iv15 => (¬ iv15 = 0 → ((ob hv14 a0 0) ∧ (∃ rv16, aP hv14 a0 4 = some rv16 ∧ ((ob hv14 rv16 13) ∧ ((vp_in ((x1 * (128 : Int32)) + iv9) (aL hv14 rv16)) ∧ (post hv14 (aI hv14 rv16 ((x1 * (128 : Int32)) + iv9).toNatClampNeg))))))) ∧ (iv15 = 0 → (post hv14 (-1)))))))))))))))))))) ∧ (iv5 = 0 → (post hv4 (-1)))))))))))
set_option maxRecDepth 100000 in
theorem c_X0_onwardFrom (G : GG) (h : AH) (a0 : Nat) (x1 : Int32) (x2 : Int32) (x3 : Int32) (x4 : Int32) (post : AH → Int32 → Prop) (hw : wp_X0_onwardFrom h a0 x1 x2 x3 x4 post) : MC G yX0_onwardFrom cX0_onwardFrom 7 (some .int) 3 76 h [.ref (G.1 + a0), .int x1, .int x2, .int x3, .int x4] (pI post) := by
  refine MC.of (lv := [(0, .ref (G.1 + a0)), (1, .int x1), (2, .int x2), (3, .int x3), (4, .int x4)]) (by decide) (Nat.le_of_ble_eq_true rfl) rfl fun p l e R s m args below meth c C hr hnm => ?_
  unfold wp_X0_onwardFrom at hw
  refine r_iload_n C dX0_onwardFrom_0 1 rfl ?_
  refine r_bipush (v := 40) C dX0_onwardFrom_1 (by decide) ?_
  refine r_imul C dX0_onwardFrom_3 ?_
  refine r_iload_n C dX0_onwardFrom_4 2 rfl ?_
  refine r_iadd C dX0_onwardFrom_5 ?_
  refine r_topi fun iv1 eiv1 => ?_
  replace hw := hw iv1 eiv1
  refine r_istore C dX0_onwardFrom_6 [(5, .int iv1), (0, .ref (G.1 + a0)), (1, .int x1), (2, .int x2), (3, .int x3), (4, .int x4)] (by decide) rfl ?_
  refine r_aload_n C dX0_onwardFrom_8 1 rfl ?_
  have hob := hw.1
  obtain ⟨rv2, hp, hw⟩ := hw.2
  refine r_getP C fl_RX0_37_0 hob hp (fun _ _ _ => rfl) dX0_onwardFrom_9 ?_
  refine r_iload_n C dX0_onwardFrom_12 2 rfl ?_
  refine r_aload_n C dX0_onwardFrom_13 1 rfl ?_
  have hob := hw.1
  obtain ⟨rv3, hp, hw⟩ := hw.2
  refine r_getP C fl_RX0_18_0 hob hp (fun _ _ _ => rfl) dX0_onwardFrom_14 ?_
  refine r_iload C dX0_onwardFrom_17 0 rfl ?_
  refine r_laload C hw.1 hw.2.1 dX0_onwardFrom_19 ?_
  replace hw := hw.2.2
  refine r_iload C dX0_onwardFrom_20 5 rfl ?_
  have hob := hw.1
  replace hw := hw.2
  refine r_callV C (As := [.int x1, .long (aJ h rv3 iv1.toNatClampNeg), .int x4]) (rest := []) (c_X1_carries G h rv2 x1 (aJ h rv3 iv1.toNatClampNeg) x4 _ hw) yl_X1_carries (gm5 (List.mem_of_getElem? (i := 117) rfl) rfl) (gm4 (List.mem_of_getElem? (i := 128) rfl) rfl) (ci := 1) rfl (by decide) (gm4 (List.mem_of_getElem? (i := 129) rfl) rfl) hob (by decide) rfl (Nat.le_of_ble_eq_true rfl) dX0_onwardFrom_22 rfl (kI fun hv4 iv5 hw => ?_)
  refine r_if_ne C dX0_onwardFrom_25 30 (by decide) (fun hc => ?_) (fun hc => ?_)
  · replace hw := hw.1 hc
    refine r_aload_n C dX0_onwardFrom_30 1 rfl ?_
    have hob := hw.1
    obtain ⟨rv6, hp, hw⟩ := hw.2
    refine r_getP C fl_RX0_37_0 hob hp (fun _ _ _ => rfl) dX0_onwardFrom_31 ?_
    refine r_iload_n C dX0_onwardFrom_34 2 rfl ?_
    refine r_aload_n C dX0_onwardFrom_35 1 rfl ?_
    have hob := hw.1
    obtain ⟨rv7, hp, hw⟩ := hw.2
    refine r_getP C fl_RX0_15_0 hob hp (fun _ _ _ => rfl) dX0_onwardFrom_36 ?_
    refine r_iload C dX0_onwardFrom_39 0 rfl ?_
    refine r_iaload C hw.1 hw.2.1 dX0_onwardFrom_41 ?_
    replace hw := hw.2.2
    refine r_iload_n C dX0_onwardFrom_42 4 rfl ?_
    have hob := hw.1
    replace hw := hw.2
    refine r_callV C (As := [.int x1, .int (aI hv4 rv7 iv1.toNatClampNeg), .int x3]) (rest := []) (c_X1_landing G hv4 rv6 x1 (aI hv4 rv7 iv1.toNatClampNeg) x3 _ hw) yl_X1_landing (gm5 (List.mem_of_getElem? (i := 118) rfl) rfl) (gm4 (List.mem_of_getElem? (i := 169) rfl) rfl) (ci := 1) rfl (by decide) (gm4 (List.mem_of_getElem? (i := 170) rfl) rfl) hob (by decide) rfl (Nat.le_of_ble_eq_true rfl) dX0_onwardFrom_43 rfl (kI fun hv8 iv9 hw => ?_)
    refine r_istore C dX0_onwardFrom_46 [(6, .int iv9), (5, .int iv1), (0, .ref (G.1 + a0)), (1, .int x1), (2, .int x2), (3, .int x3), (4, .int x4)] (by decide) rfl ?_
    refine r_iload C dX0_onwardFrom_48 0 rfl ?_
    refine r_if_lt C dX0_onwardFrom_50 76 (by decide) (fun hc => ?_) (fun hc => ?_)
    · replace hw := hw.1 hc
      refine r_iconst (v := (-1)) C dX0_onwardFrom_76 (by decide) ?_
      exact r_iret C hr dX0_onwardFrom_77 hw
    · replace hw := hw.2 hc
      refine r_aload_n C dX0_onwardFrom_53 2 rfl ?_
      have hob := hw.1
      obtain ⟨rv10, hp, hw⟩ := hw.2
      refine r_getP C fl_RX0_37_0 hob hp (fun _ _ _ => rfl) dX0_onwardFrom_54 ?_
      refine r_iload_n C dX0_onwardFrom_57 3 rfl ?_
      refine r_aload_n C dX0_onwardFrom_58 2 rfl ?_
      have hob := hw.1
      obtain ⟨rv11, hp, hw⟩ := hw.2
      refine r_getP C fl_RX0_37_0 hob hp (fun _ _ _ => rfl) dX0_onwardFrom_59 ?_
      refine r_iload_n C dX0_onwardFrom_62 3 rfl ?_
      refine r_iload C dX0_onwardFrom_63 0 rfl ?_
      have hob := hw.1
      replace hw := hw.2
      refine r_callV C (As := [.int x1, .int iv9]) (rest := [.int x1, .ref (G.1 + rv10)]) (c_X1_coverAt G hv8 rv11 x1 iv9 _ hw) yl_X1_coverAt (gm5 (List.mem_of_getElem? (i := 97) rfl) rfl) (gm3 (List.mem_of_getElem? (i := 223) rfl) rfl) (ci := 1) rfl (by decide) (gm3 (List.mem_of_getElem? (i := 224) rfl) rfl) hob (by decide) rfl (Nat.le_of_ble_eq_true rfl) dX0_onwardFrom_65 rfl (kJ fun hv12 jv13 hw => ?_)
      refine r_iload C dX0_onwardFrom_68 6 rfl ?_
      have hob := hw.1
      replace hw := hw.2
      refine r_callV C (As := [.int x1, .long jv13, .int x4]) (rest := []) (c_X1_carries G hv12 rv10 x1 jv13 x4 _ hw) yl_X1_carries (gm5 (List.mem_of_getElem? (i := 117) rfl) rfl) (gm4 (List.mem_of_getElem? (i := 128) rfl) rfl) (ci := 1) rfl (by decide) (gm4 (List.mem_of_getElem? (i := 129) rfl) rfl) hob (by decide) rfl (Nat.le_of_ble_eq_true rfl) dX0_onwardFrom_70 rfl (kI fun hv14 iv15 hw => ?_)
      refine r_if_ne C dX0_onwardFrom_73 78 (by decide) (fun hc => ?_) (fun hc => ?_)
      · replace hw := hw.1 hc
        refine r_aload_n C dX0_onwardFrom_78 2 rfl ?_
        have hob := hw.1
        obtain ⟨rv16, hp, hw⟩ := hw.2
        refine r_getP C fl_RX0_22_0 hob hp (fun _ _ _ => rfl) dX0_onwardFrom_79 ?_
        refine r_iload_n C dX0_onwardFrom_82 3 rfl ?_
        refine r_sipush (v := 128) C dX0_onwardFrom_83 (by decide) ?_
        refine r_imul C dX0_onwardFrom_86 ?_
        refine r_iload C dX0_onwardFrom_87 0 rfl ?_
        refine r_iadd C dX0_onwardFrom_89 ?_
        refine r_iaload C hw.1 hw.2.1 dX0_onwardFrom_90 ?_
        replace hw := hw.2.2
        exact r_iret C hr dX0_onwardFrom_91 hw
      · replace hw := hw.2 hc
        refine r_iconst (v := (-1)) C dX0_onwardFrom_76 (by decide) ?_
        exact r_iret C hr dX0_onwardFrom_77 hw
  · replace hw := hw.2 hc
    refine r_iconst (v := (-1)) C dX0_onwardFrom_28 (by decide) ?_
    exact r_iret C hr dX0_onwardFrom_29 hw
theorem dX0_link_0 : decode cX0_link 0 = .ok (.iconst 0, 1) := by decide +kernel
theorem dX0_link_1 : decode cX0_link 1 = .ok (.istore_n 2, 1) := by decide +kernel
theorem dX0_link_2 : decode cX0_link 2 = .ok (.iload_n 2, 1) := by decide +kernel
theorem dX0_link_3 : decode cX0_link 3 = .ok (.aload_n 0, 1) := by decide +kernel
theorem dX0_link_4 : decode cX0_link 4 = .ok (.getfield 37, 3) := by decide +kernel
theorem dX0_link_7 : decode cX0_link 7 = .ok (.getfield 41, 3) := by decide +kernel
theorem dX0_link_10 : decode cX0_link 10 = .ok (.if_icmp .ge 72, 3) := by decide +kernel
theorem dX0_link_13 : decode cX0_link 13 = .ok (.iload_n 2, 1) := by decide +kernel
theorem dX0_link_14 : decode cX0_link 14 = .ok (.iconst 3, 1) := by decide +kernel
theorem dX0_link_15 : decode cX0_link 15 = .ok (.if_icmp .ge 67, 3) := by decide +kernel
theorem dX0_link_18 : decode cX0_link 18 = .ok (.iconst 0, 1) := by decide +kernel
theorem dX0_link_19 : decode cX0_link 19 = .ok (.istore_n 3, 1) := by decide +kernel
theorem dX0_link_20 : decode cX0_link 20 = .ok (.iload_n 3, 1) := by decide +kernel
theorem dX0_link_21 : decode cX0_link 21 = .ok (.aload_n 0, 1) := by decide +kernel
theorem dX0_link_22 : decode cX0_link 22 = .ok (.getfield 11, 3) := by decide +kernel
theorem dX0_link_25 : decode cX0_link 25 = .ok (.iload_n 2, 1) := by decide +kernel
theorem dX0_link_26 : decode cX0_link 26 = .ok (.iaload, 1) := by decide +kernel
theorem dX0_link_27 : decode cX0_link 27 = .ok (.if_icmp .ge 49, 3) := by decide +kernel
theorem dX0_link_30 : decode cX0_link 30 = .ok (.iconst 0, 1) := by decide +kernel
theorem dX0_link_31 : decode cX0_link 31 = .ok (.istore 4, 2) := by decide +kernel
theorem dX0_link_33 : decode cX0_link 33 = .ok (.iload 4, 2) := by decide +kernel
theorem dX0_link_35 : decode cX0_link 35 = .ok (.iconst 5, 1) := by decide +kernel
theorem dX0_link_36 : decode cX0_link 36 = .ok (.if_icmp .ge 34, 3) := by decide +kernel
theorem dX0_link_39 : decode cX0_link 39 = .ok (.aload_n 0, 1) := by decide +kernel
theorem dX0_link_40 : decode cX0_link 40 = .ok (.getfield 25, 3) := by decide +kernel
theorem dX0_link_43 : decode cX0_link 43 = .ok (.iload_n 2, 1) := by decide +kernel
theorem dX0_link_44 : decode cX0_link 44 = .ok (.bipush 40, 2) := by decide +kernel
theorem dX0_link_46 : decode cX0_link 46 = .ok (.imul, 1) := by decide +kernel
theorem dX0_link_47 : decode cX0_link 47 = .ok (.iload_n 3, 1) := by decide +kernel
theorem dX0_link_48 : decode cX0_link 48 = .ok (.iadd, 1) := by decide +kernel
theorem dX0_link_49 : decode cX0_link 49 = .ok (.iconst 5, 1) := by decide +kernel
theorem dX0_link_50 : decode cX0_link 50 = .ok (.imul, 1) := by decide +kernel
theorem dX0_link_51 : decode cX0_link 51 = .ok (.iload 4, 2) := by decide +kernel
theorem dX0_link_53 : decode cX0_link 53 = .ok (.iadd, 1) := by decide +kernel
theorem dX0_link_54 : decode cX0_link 54 = .ok (.aload_n 0, 1) := by decide +kernel
theorem dX0_link_55 : decode cX0_link 55 = .ok (.iload_n 2, 1) := by decide +kernel
theorem dX0_link_56 : decode cX0_link 56 = .ok (.iload_n 3, 1) := by decide +kernel
theorem dX0_link_57 : decode cX0_link 57 = .ok (.iload 4, 2) := by decide +kernel
theorem dX0_link_59 : decode cX0_link 59 = .ok (.iload_n 1, 1) := by decide +kernel
theorem dX0_link_60 : decode cX0_link 60 = .ok (.invokevirtual 115, 3) := by decide +kernel
theorem dX0_link_63 : decode cX0_link 63 = .ok (.iastore, 1) := by decide +kernel
theorem dX0_link_64 : decode cX0_link 64 = .ok (.iinc 4 1, 3) := by decide +kernel
theorem dX0_link_67 : decode cX0_link 67 = .ok (.goto (-34), 3) := by decide +kernel
theorem dX0_link_70 : decode cX0_link 70 = .ok (.iinc 3 1, 3) := by decide +kernel
theorem dX0_link_73 : decode cX0_link 73 = .ok (.goto (-53), 3) := by decide +kernel
theorem dX0_link_76 : decode cX0_link 76 = .ok (.iinc 2 1, 3) := by decide +kernel
theorem dX0_link_79 : decode cX0_link 79 = .ok (.goto (-77), 3) := by decide +kernel
theorem dX0_link_82 : decode cX0_link 82 = .ok (.return_, 1) := by decide +kernel
def wb_X0_link_33 (K2 : AH → Nat → Int32 → Int32 → Prop) (K20 : AH → Nat → Int32 → Int32 → Int32 → Prop) (K33 : AH → Nat → Int32 → Int32 → Int32 → Int32 → Prop) (h : AH) (al0 : Nat) (xl1 : Int32) (xl2 : Int32) (xl3 : Int32) (xl4 : Int32)  (post : AH → Prop) : Prop := (5 ≤ xl4 → (∀ iv1 : Int32, iv1 = xl3 + 1 → (K20 h al0 xl1 xl2 iv1))) ∧ (¬ 5 ≤ xl4 → ((ob h al0 0) ∧ (∃ rv2, aP h al0 5 = some rv2 ∧ ((ob h al0 0) ∧ wp_X0_onwardFrom h al0 xl2 xl3 xl4 xl1 (fun hv3 iv4 => (ob hv3 rv2 13) ∧ ((vp_in ((((xl2 * (40 : Int32)) + xl3) * (5 : Int32)) + xl4) (aL hv3 rv2)) ∧ (∀ hv5 : AH, hv5 = hI hv3 rv2 ((((xl2 * (40 : Int32)) + xl3) * (5 : Int32)) + xl4).toNatClampNeg iv4 → (∀ iv6 : Int32, iv6 = xl4 + 1 → (K33 hv5 al0 xl1 xl2 xl3 iv6)))))))))
set_option maxRecDepth 100000 in
theorem tb_X0_link_33 {G : GG} {p : Program} {l : Launch} {e : Env} {R : Room} {s : State} {m : MethodId} {args : Array Value} {below : List Frame} {meth : Method} {c : Code} {n0 s0 : Nat} {post : AH → Prop} (C : Cx G p R s m args meth c 5 cX0_link RX0 n0 s0 4 102) (hr : meth.sig.returnType = none) {K2 : AH → Nat → Int32 → Int32 → Prop} {K20 : AH → Nat → Int32 → Int32 → Int32 → Prop} {K33 : AH → Nat → Int32 → Int32 → Int32 → Int32 → Prop} (hK2 : ∀ (h : AH) (al0 : Nat) (xl1 : Int32) (xl2 : Int32), K2 h al0 xl1 xl2 → AW G p l e R s m args below meth c 5 (QM G (pV post) args s below n0 s0) 2 [(0, .ref (G.1 + al0)), (1, .int xl1), (2, .int xl2)] [] h) (hK20 : ∀ (h : AH) (al0 : Nat) (xl1 : Int32) (xl2 : Int32) (xl3 : Int32), K20 h al0 xl1 xl2 xl3 → AW G p l e R s m args below meth c 5 (QM G (pV post) args s below n0 s0) 20 [(0, .ref (G.1 + al0)), (1, .int xl1), (2, .int xl2), (3, .int xl3)] [] h) (hK33 : ∀ (h : AH) (al0 : Nat) (xl1 : Int32) (xl2 : Int32) (xl3 : Int32) (xl4 : Int32), K33 h al0 xl1 xl2 xl3 xl4 → AW G p l e R s m args below meth c 5 (QM G (pV post) args s below n0 s0) 33 [(0, .ref (G.1 + al0)), (1, .int xl1), (2, .int xl2), (3, .int xl3), (4, .int xl4)] [] h) {h : AH} {al0 : Nat} {xl1 : Int32} {xl2 : Int32} {xl3 : Int32} {xl4 : Int32}  (hw : wb_X0_link_33 K2 K20 K33 h al0 xl1 xl2 xl3 xl4 post) : AW G p l e R s m args below meth c 5 (QM G (pV post) args s below n0 s0) 33 [(0, .ref (G.1 + al0)), (1, .int xl1), (2, .int xl2), (3, .int xl3), (4, .int xl4)] [] h := by
  unfold wb_X0_link_33 at hw
  refine r_iload C dX0_link_33 4 rfl ?_
  refine r_iconst (v := 5) C dX0_link_35 (by decide) ?_
  refine r_icmp_ge C dX0_link_36 70 (by decide) (fun hc => ?_) (fun hc => ?_)
  · replace hw := hw.1 hc
    obtain ⟨iv1, eiv1⟩ : ∃ q : Int32, q = xl3 + 1 := ⟨_, rfl⟩
    replace hw := hw iv1 eiv1
    refine r_iinc C dX0_link_70 3 rfl (by rw [eiv1]; rfl) [(3, .int iv1), (0, .ref (G.1 + al0)), (1, .int xl1), (2, .int xl2), (4, .int xl4)] (by decide) rfl ?_
    refine r_goto C dX0_link_73 20 (by decide) ?_
    refine r_sub [1, 2, 3, 0] rfl ?_
    exact hK20 _ _ _ _ _ hw
  · replace hw := hw.2 hc
    refine r_aload_n C dX0_link_39 0 rfl ?_
    have hob := hw.1
    obtain ⟨rv2, hp, hw⟩ := hw.2
    refine r_getP C fl_RX0_25_0 hob hp (fun _ _ _ => rfl) dX0_link_40 ?_
    refine r_iload_n C dX0_link_43 2 rfl ?_
    refine r_bipush (v := 40) C dX0_link_44 (by decide) ?_
    refine r_imul C dX0_link_46 ?_
    refine r_iload_n C dX0_link_47 3 rfl ?_
    refine r_iadd C dX0_link_48 ?_
    refine r_iconst (v := 5) C dX0_link_49 (by decide) ?_
    refine r_imul C dX0_link_50 ?_
    refine r_iload C dX0_link_51 4 rfl ?_
    refine r_iadd C dX0_link_53 ?_
    refine r_aload_n C dX0_link_54 0 rfl ?_
    refine r_iload_n C dX0_link_55 2 rfl ?_
    refine r_iload_n C dX0_link_56 3 rfl ?_
    refine r_iload C dX0_link_57 4 rfl ?_
    refine r_iload_n C dX0_link_59 1 rfl ?_
    have hob := hw.1
    replace hw := hw.2
    refine r_callV C (As := [.int xl2, .int xl3, .int xl4, .int xl1]) (rest := [.int ((((xl2 * (40 : Int32)) + xl3) * (5 : Int32)) + xl4), .ref (G.1 + rv2)]) (c_X0_onwardFrom G h al0 xl2 xl3 xl4 xl1 _ hw) yl_X0_onwardFrom (gm5 (List.mem_of_getElem? (i := 113) rfl) rfl) (gm5 (List.mem_of_getElem? (i := 115) rfl) rfl) (ci := 0) rfl (by decide) (gsel (List.mem_of_getElem? (i := 24) rfl)) hob (by decide) rfl (Nat.le_of_ble_eq_true rfl) dX0_link_60 rfl (kI fun hv3 iv4 hw => ?_)
    refine r_iastore C hw.1 hw.2.1 dX0_link_63 ?_
    replace hw := hw.2.2
    refine r_toph fun hv5 ehv5 => ?_
    replace hw := hw hv5 ehv5
    obtain ⟨iv6, eiv6⟩ : ∃ q : Int32, q = xl4 + 1 := ⟨_, rfl⟩
    replace hw := hw iv6 eiv6
    refine r_iinc C dX0_link_64 4 rfl (by rw [eiv6]; rfl) [(4, .int iv6), (0, .ref (G.1 + al0)), (1, .int xl1), (2, .int xl2), (3, .int xl3)] (by decide) rfl ?_
    refine r_goto C dX0_link_67 33 (by decide) ?_
    refine r_sub [1, 2, 3, 4, 0] rfl ?_
    exact hK33 _ _ _ _ _ _ hw
def wl_X0_link_33 (K2 : AH → Nat → Int32 → Int32 → Prop) (K20 : AH → Nat → Int32 → Int32 → Int32 → Prop) (post : AH → Prop) : Nat → AH → Nat → Int32 → Int32 → Int32 → Int32 → Prop
  | 0 => fun _ _ _ _ _ _ => False
  | n + 1 => fun h al0 xl1 xl2 xl3 xl4 => wb_X0_link_33 K2 K20 (wl_X0_link_33 K2 K20 post n) h al0 xl1 xl2 xl3 xl4 post
theorem tl_X0_link_33 {G : GG} {p : Program} {l : Launch} {e : Env} {R : Room} {s : State} {m : MethodId} {args : Array Value} {below : List Frame} {meth : Method} {c : Code} {n0 s0 : Nat} {post : AH → Prop} (C : Cx G p R s m args meth c 5 cX0_link RX0 n0 s0 4 102) (hr : meth.sig.returnType = none) {K2 : AH → Nat → Int32 → Int32 → Prop} {K20 : AH → Nat → Int32 → Int32 → Int32 → Prop} (hK2 : ∀ (h : AH) (al0 : Nat) (xl1 : Int32) (xl2 : Int32), K2 h al0 xl1 xl2 → AW G p l e R s m args below meth c 5 (QM G (pV post) args s below n0 s0) 2 [(0, .ref (G.1 + al0)), (1, .int xl1), (2, .int xl2)] [] h) (hK20 : ∀ (h : AH) (al0 : Nat) (xl1 : Int32) (xl2 : Int32) (xl3 : Int32), K20 h al0 xl1 xl2 xl3 → AW G p l e R s m args below meth c 5 (QM G (pV post) args s below n0 s0) 20 [(0, .ref (G.1 + al0)), (1, .int xl1), (2, .int xl2), (3, .int xl3)] [] h) : ∀ (n : Nat) (h : AH) (al0 : Nat) (xl1 : Int32) (xl2 : Int32) (xl3 : Int32) (xl4 : Int32), wl_X0_link_33 K2 K20 post n h al0 xl1 xl2 xl3 xl4 → AW G p l e R s m args below meth c 5 (QM G (pV post) args s below n0 s0) 33 [(0, .ref (G.1 + al0)), (1, .int xl1), (2, .int xl2), (3, .int xl3), (4, .int xl4)] [] h := by
  intro n
  induction n with
  | zero => intro h al0 xl1 xl2 xl3 xl4 hw; exact hw.elim
  | succ n ih => intro h al0 xl1 xl2 xl3 xl4 hw; exact tb_X0_link_33 C hr hK2 hK20 ih hw
def wb_X0_link_20 (K2 : AH → Nat → Int32 → Int32 → Prop) (K20 : AH → Nat → Int32 → Int32 → Int32 → Prop) (h : AH) (al0 : Nat) (xl1 : Int32) (xl2 : Int32) (xl3 : Int32)  (post : AH → Prop) : Prop := (ob h al0 0) ∧ (∃ rv1, aP h al0 1 = some rv1 ∧ ((ob h rv1 13) ∧ ((vp_in xl2 (aL h rv1)) ∧ (((aI h rv1 xl2.toNatClampNeg) ≤ xl3 → (∀ iv2 : Int32, iv2 = xl2 + 1 → (K2 h al0 xl1 iv2))) ∧ (¬ (aI h rv1 xl2.toNatClampNeg) ≤ xl3 → (∃ n, wl_X0_link_33 K2 K20 post n h al0 xl1 xl2 xl3 0))))))
set_option maxRecDepth 100000 in
theorem tb_X0_link_20 {G : GG} {p : Program} {l : Launch} {e : Env} {R : Room} {s : State} {m : MethodId} {args : Array Value} {below : List Frame} {meth : Method} {c : Code} {n0 s0 : Nat} {post : AH → Prop} (C : Cx G p R s m args meth c 5 cX0_link RX0 n0 s0 4 102) (hr : meth.sig.returnType = none) {K2 : AH → Nat → Int32 → Int32 → Prop} {K20 : AH → Nat → Int32 → Int32 → Int32 → Prop} (hK2 : ∀ (h : AH) (al0 : Nat) (xl1 : Int32) (xl2 : Int32), K2 h al0 xl1 xl2 → AW G p l e R s m args below meth c 5 (QM G (pV post) args s below n0 s0) 2 [(0, .ref (G.1 + al0)), (1, .int xl1), (2, .int xl2)] [] h) (hK20 : ∀ (h : AH) (al0 : Nat) (xl1 : Int32) (xl2 : Int32) (xl3 : Int32), K20 h al0 xl1 xl2 xl3 → AW G p l e R s m args below meth c 5 (QM G (pV post) args s below n0 s0) 20 [(0, .ref (G.1 + al0)), (1, .int xl1), (2, .int xl2), (3, .int xl3)] [] h) {h : AH} {al0 : Nat} {xl1 : Int32} {xl2 : Int32} {xl3 : Int32}  (hw : wb_X0_link_20 K2 K20 h al0 xl1 xl2 xl3 post) : AW G p l e R s m args below meth c 5 (QM G (pV post) args s below n0 s0) 20 [(0, .ref (G.1 + al0)), (1, .int xl1), (2, .int xl2), (3, .int xl3)] [] h := by
  unfold wb_X0_link_20 at hw
  refine r_iload_n C dX0_link_20 3 rfl ?_
  refine r_aload_n C dX0_link_21 0 rfl ?_
  have hob := hw.1
  obtain ⟨rv1, hp, hw⟩ := hw.2
  refine r_getP C fl_RX0_11_0 hob hp (fun _ _ _ => rfl) dX0_link_22 ?_
  refine r_iload_n C dX0_link_25 2 rfl ?_
  refine r_iaload C hw.1 hw.2.1 dX0_link_26 ?_
  replace hw := hw.2.2
  refine r_icmp_ge C dX0_link_27 76 (by decide) (fun hc => ?_) (fun hc => ?_)
  · replace hw := hw.1 hc
    obtain ⟨iv2, eiv2⟩ : ∃ q : Int32, q = xl2 + 1 := ⟨_, rfl⟩
    replace hw := hw iv2 eiv2
    refine r_iinc C dX0_link_76 2 rfl (by rw [eiv2]; rfl) [(2, .int iv2), (0, .ref (G.1 + al0)), (1, .int xl1), (3, .int xl3)] (by decide) rfl ?_
    refine r_goto C dX0_link_79 2 (by decide) ?_
    refine r_sub [1, 2, 0] rfl ?_
    exact hK2 _ _ _ _ hw
  · replace hw := hw.2 hc
    refine r_iconst (v := 0) C dX0_link_30 (by decide) ?_
    refine r_istore C dX0_link_31 [(4, .int 0), (0, .ref (G.1 + al0)), (1, .int xl1), (2, .int xl2), (3, .int xl3)] (by decide) rfl ?_
    refine r_sub [1, 2, 3, 4, 0] rfl ?_
    obtain ⟨n, hw⟩ := hw
    exact tl_X0_link_33 C hr hK2 hK20 n _ _ _ _ _ _ hw
def wl_X0_link_20 (K2 : AH → Nat → Int32 → Int32 → Prop) (post : AH → Prop) : Nat → AH → Nat → Int32 → Int32 → Int32 → Prop
  | 0 => fun _ _ _ _ _ => False
  | n + 1 => fun h al0 xl1 xl2 xl3 => wb_X0_link_20 K2 (wl_X0_link_20 K2 post n) h al0 xl1 xl2 xl3 post
theorem tl_X0_link_20 {G : GG} {p : Program} {l : Launch} {e : Env} {R : Room} {s : State} {m : MethodId} {args : Array Value} {below : List Frame} {meth : Method} {c : Code} {n0 s0 : Nat} {post : AH → Prop} (C : Cx G p R s m args meth c 5 cX0_link RX0 n0 s0 4 102) (hr : meth.sig.returnType = none) {K2 : AH → Nat → Int32 → Int32 → Prop} (hK2 : ∀ (h : AH) (al0 : Nat) (xl1 : Int32) (xl2 : Int32), K2 h al0 xl1 xl2 → AW G p l e R s m args below meth c 5 (QM G (pV post) args s below n0 s0) 2 [(0, .ref (G.1 + al0)), (1, .int xl1), (2, .int xl2)] [] h) : ∀ (n : Nat) (h : AH) (al0 : Nat) (xl1 : Int32) (xl2 : Int32) (xl3 : Int32), wl_X0_link_20 K2 post n h al0 xl1 xl2 xl3 → AW G p l e R s m args below meth c 5 (QM G (pV post) args s below n0 s0) 20 [(0, .ref (G.1 + al0)), (1, .int xl1), (2, .int xl2), (3, .int xl3)] [] h := by
  intro n
  induction n with
  | zero => intro h al0 xl1 xl2 xl3 hw; exact hw.elim
  | succ n ih => intro h al0 xl1 xl2 xl3 hw; exact tb_X0_link_20 C hr hK2 ih hw
def wb_X0_link_2 (K2 : AH → Nat → Int32 → Int32 → Prop) (h : AH) (al0 : Nat) (xl1 : Int32) (xl2 : Int32)  (post : AH → Prop) : Prop := (ob h al0 0) ∧ (∃ rv1, aP h al0 0 = some rv1 ∧ ((ob h rv1 1) ∧ (((aI h rv1 5) ≤ xl2 → (post h)) ∧ (¬ (aI h rv1 5) ≤ xl2 → ((3 ≤ xl2 → (post h)) ∧ (¬ 3 ≤ xl2 → (∃ n, wl_X0_link_20 K2 post n h al0 xl1 xl2 0)))))))
set_option maxRecDepth 100000 in
theorem tb_X0_link_2 {G : GG} {p : Program} {l : Launch} {e : Env} {R : Room} {s : State} {m : MethodId} {args : Array Value} {below : List Frame} {meth : Method} {c : Code} {n0 s0 : Nat} {post : AH → Prop} (C : Cx G p R s m args meth c 5 cX0_link RX0 n0 s0 4 102) (hr : meth.sig.returnType = none) {K2 : AH → Nat → Int32 → Int32 → Prop} (hK2 : ∀ (h : AH) (al0 : Nat) (xl1 : Int32) (xl2 : Int32), K2 h al0 xl1 xl2 → AW G p l e R s m args below meth c 5 (QM G (pV post) args s below n0 s0) 2 [(0, .ref (G.1 + al0)), (1, .int xl1), (2, .int xl2)] [] h) {h : AH} {al0 : Nat} {xl1 : Int32} {xl2 : Int32}  (hw : wb_X0_link_2 K2 h al0 xl1 xl2 post) : AW G p l e R s m args below meth c 5 (QM G (pV post) args s below n0 s0) 2 [(0, .ref (G.1 + al0)), (1, .int xl1), (2, .int xl2)] [] h := by
  unfold wb_X0_link_2 at hw
  refine r_iload_n C dX0_link_2 2 rfl ?_
  refine r_aload_n C dX0_link_3 0 rfl ?_
  have hob := hw.1
  obtain ⟨rv1, hp, hw⟩ := hw.2
  refine r_getP C fl_RX0_37_0 hob hp (fun _ _ _ => rfl) dX0_link_4 ?_
  refine r_getI C fl_RX0_41_1 hw.1 (fun _ _ _ => rfl) dX0_link_7 ?_
  replace hw := hw.2
  refine r_icmp_ge C dX0_link_10 82 (by decide) (fun hc => ?_) (fun hc => ?_)
  · replace hw := hw.1 hc
    exact r_vret C hr dX0_link_82 hw
  · replace hw := hw.2 hc
    refine r_iload_n C dX0_link_13 2 rfl ?_
    refine r_iconst (v := 3) C dX0_link_14 (by decide) ?_
    refine r_icmp_ge C dX0_link_15 82 (by decide) (fun hc => ?_) (fun hc => ?_)
    · replace hw := hw.1 hc
      exact r_vret C hr dX0_link_82 hw
    · replace hw := hw.2 hc
      refine r_iconst (v := 0) C dX0_link_18 (by decide) ?_
      refine r_istore_n C dX0_link_19 [(3, .int 0), (0, .ref (G.1 + al0)), (1, .int xl1), (2, .int xl2)] (by decide) rfl ?_
      refine r_sub [1, 2, 3, 0] rfl ?_
      obtain ⟨n, hw⟩ := hw
      exact tl_X0_link_20 C hr hK2 n _ _ _ _ _ hw
def wl_X0_link_2  (post : AH → Prop) : Nat → AH → Nat → Int32 → Int32 → Prop
  | 0 => fun _ _ _ _ => False
  | n + 1 => fun h al0 xl1 xl2 => wb_X0_link_2  (wl_X0_link_2  post n) h al0 xl1 xl2 post
theorem tl_X0_link_2 {G : GG} {p : Program} {l : Launch} {e : Env} {R : Room} {s : State} {m : MethodId} {args : Array Value} {below : List Frame} {meth : Method} {c : Code} {n0 s0 : Nat} {post : AH → Prop} (C : Cx G p R s m args meth c 5 cX0_link RX0 n0 s0 4 102) (hr : meth.sig.returnType = none)   : ∀ (n : Nat) (h : AH) (al0 : Nat) (xl1 : Int32) (xl2 : Int32), wl_X0_link_2  post n h al0 xl1 xl2 → AW G p l e R s m args below meth c 5 (QM G (pV post) args s below n0 s0) 2 [(0, .ref (G.1 + al0)), (1, .int xl1), (2, .int xl2)] [] h := by
  intro n
  induction n with
  | zero => intro h al0 xl1 xl2 hw; exact hw.elim
  | succ n ih => intro h al0 xl1 xl2 hw; exact tb_X0_link_2 C hr  ih hw
def wp_X0_link (h : AH) (a0 : Nat) (x1 : Int32) (post : AH → Prop) : Prop := ∃ n, wl_X0_link_2  post n h a0 x1 0
set_option maxRecDepth 100000 in
theorem c_X0_link (G : GG) (h : AH) (a0 : Nat) (x1 : Int32) (post : AH → Prop) (hw : wp_X0_link h a0 x1 post) : MC G yX0_link cX0_link 5 none 4 102 h [.ref (G.1 + a0), .int x1] (pV post) := by
  refine MC.of (lv := [(0, .ref (G.1 + a0)), (1, .int x1)]) (by decide) (Nat.le_of_ble_eq_true rfl) rfl fun p l e R s m args below meth c C hr hnm => ?_
  unfold wp_X0_link at hw
  refine r_iconst (v := 0) C dX0_link_0 (by decide) ?_
  refine r_istore_n C dX0_link_1 [(2, .int 0), (0, .ref (G.1 + a0)), (1, .int x1)] (by decide) rfl ?_
  refine r_sub [1, 2, 0] rfl ?_
  obtain ⟨n, hw⟩ := hw
  exact tl_X0_link_2 C hr  n _ _ _ _ hw
