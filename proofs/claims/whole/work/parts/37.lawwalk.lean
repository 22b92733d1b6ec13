theorem nl_RL_8 : NL RL 8 10 := ⟨RX11, TX11, 15, ci10, (gm1 (List.mem_of_getElem? (i := 26) rfl) rfl), (gm1 (List.mem_of_getElem? (i := 27) rfl) rfl), (gm1 (List.mem_of_getElem? (i := 1) rfl) rfl), by decide⟩
theorem yl_X11_init : YL yX11_init cX11_init 1 none 0 := ⟨(gm1 (List.mem_of_getElem? (i := 30) rfl) rfl), (gm1 (List.mem_of_getElem? (i := 1) rfl) rfl), by decide, by decide, by decide +kernel⟩
theorem nl_RL_19 : NL RL 19 11 := ⟨RX12, TX12, 53, ci11, (gm6 (List.mem_of_getElem? (i := 194) rfl) rfl), (gm6 (List.mem_of_getElem? (i := 188) rfl) rfl), (gm1 (List.mem_of_getElem? (i := 18) rfl) rfl), by decide⟩
theorem yl_X12_init : YL yX12_init cX12_init 2 none 0 := ⟨(gm6 (List.mem_of_getElem? (i := 197) rfl) rfl), (gm1 (List.mem_of_getElem? (i := 18) rfl) rfl), by decide, by decide, by decide +kernel⟩
theorem yl_X11_feed : YL yX11_feed cX11_feed 6 (some .int) 5 := ⟨(gm3 (List.mem_of_getElem? (i := 94) rfl) rfl), (gm1 (List.mem_of_getElem? (i := 1) rfl) rfl), by decide, by decide, by decide +kernel⟩
theorem yl_X12_feed : YL yX12_feed cX12_feed 6 (some .int) 5 := ⟨(gm6 (List.mem_of_getElem? (i := 184) rfl) rfl), (gm1 (List.mem_of_getElem? (i := 18) rfl) rfl), by decide, by decide, by decide +kernel⟩
theorem yl_X11_end : YL yX11_end cX11_end 2 (some .boolean) 1 := ⟨(gm3 (List.mem_of_getElem? (i := 102) rfl) rfl), (gm1 (List.mem_of_getElem? (i := 1) rfl) rfl), by decide, by decide, by decide +kernel⟩
theorem yl_X12_end : YL yX12_end cX12_end 2 (some .boolean) 1 := ⟨(gm6 (List.mem_of_getElem? (i := 193) rfl) rfl), (gm1 (List.mem_of_getElem? (i := 18) rfl) rfl), by decide, by decide, by decide +kernel⟩
theorem yl_X11_lagoon : YL yX11_lagoon cX11_lagoon 2 (some .int) 0 := ⟨(gm3 (List.mem_of_getElem? (i := 106) rfl) rfl), (gm1 (List.mem_of_getElem? (i := 1) rfl) rfl), by decide, by decide, by decide +kernel⟩
theorem yl_X12_lagoon : YL yX12_lagoon cX12_lagoon 2 (some .int) 0 := ⟨(gm7 (List.mem_of_getElem? (i := 146) rfl) rfl), (gm1 (List.mem_of_getElem? (i := 18) rfl) rfl), by decide, by decide, by decide +kernel⟩
theorem yl_X11_fault : YL yX11_fault cX11_fault 1 (some .int) 0 := ⟨(gm4 (List.mem_of_getElem? (i := 81) rfl) rfl), (gm1 (List.mem_of_getElem? (i := 1) rfl) rfl), by decide, by decide, by decide +kernel⟩
theorem yl_X12_fault : YL yX12_fault cX12_fault 1 (some .int) 0 := ⟨(gm8 (List.mem_of_getElem? (i := 29) rfl) rfl), (gm1 (List.mem_of_getElem? (i := 18) rfl) rfl), by decide, by decide, by decide +kernel⟩
theorem yl_X11_water : YL yX11_water cX11_water 4 (some .int) 3 := ⟨(gm4 (List.mem_of_getElem? (i := 85) rfl) rfl), (gm1 (List.mem_of_getElem? (i := 1) rfl) rfl), by decide, by decide, by decide +kernel⟩
theorem yl_X12_water : YL yX12_water cX12_water 4 (some .int) 3 := ⟨(gm8 (List.mem_of_getElem? (i := 33) rfl) rfl), (gm1 (List.mem_of_getElem? (i := 18) rfl) rfl), by decide, by decide, by decide +kernel⟩
theorem yl_X12_raft : YL yX12_raft cX12_raft 3 (some .int) 2 := ⟨(gm8 (List.mem_of_getElem? (i := 48) rfl) rfl), (gm1 (List.mem_of_getElem? (i := 18) rfl) rfl), by decide, by decide, by decide +kernel⟩
theorem yl_X12_thrown : YL yX12_thrown cX12_thrown 1 (some .int) 0 := ⟨(gm6 (List.mem_of_getElem? (i := 180) rfl) rfl), (gm1 (List.mem_of_getElem? (i := 18) rfl) rfl), by decide, by decide, by decide +kernel⟩
theorem yl_X11_at : YL yX11_at cX11_at 4 (some .int) 2 := ⟨(gm4 (List.mem_of_getElem? (i := 97) rfl) rfl), (gm1 (List.mem_of_getElem? (i := 1) rfl) rfl), by decide, by decide, by decide +kernel⟩
theorem yl_X12_at : YL yX12_at cX12_at 4 (some .int) 2 := ⟨(gm8 (List.mem_of_getElem? (i := 64) rfl) rfl), (gm1 (List.mem_of_getElem? (i := 18) rfl) rfl), by decide, by decide, by decide +kernel⟩
theorem yl_X11_lay : YL yX11_lay cX11_lay 1 (some .boolean) 0 := ⟨(gm4 (List.mem_of_getElem? (i := 101) rfl) rfl), (gm1 (List.mem_of_getElem? (i := 1) rfl) rfl), by decide, by decide, by decide +kernel⟩
theorem yl_X12_lay : YL yX12_lay cX12_lay 1 (some .boolean) 0 := ⟨(gm8 (List.mem_of_getElem? (i := 72) rfl) rfl), (gm1 (List.mem_of_getElem? (i := 18) rfl) rfl), by decide, by decide, by decide +kernel⟩
theorem yl_X12_aground : YL yX12_aground cX12_aground 4 (some .int) 1 := ⟨(gm8 (List.mem_of_getElem? (i := 100) rfl) rfl), (gm1 (List.mem_of_getElem? (i := 18) rfl) rfl), by decide, by decide, by decide +kernel⟩
theorem yl_X11_breaks : YL yX11_breaks cX11_breaks 5 (some .int) 1 := ⟨(gm4 (List.mem_of_getElem? (i := 135) rfl) rfl), (gm1 (List.mem_of_getElem? (i := 1) rfl) rfl), by decide, by decide, by decide +kernel⟩
theorem yl_X12_breaks : YL yX12_breaks cX12_breaks 9 (some .int) 1 := ⟨(gm8 (List.mem_of_getElem? (i := 108) rfl) rfl), (gm1 (List.mem_of_getElem? (i := 18) rfl) rfl), by decide, by decide, by decide +kernel⟩
theorem yl_X11_floats : YL yX11_floats cX11_floats 2 (some .int) 1 := ⟨(gm4 (List.mem_of_getElem? (i := 144) rfl) rfl), (gm1 (List.mem_of_getElem? (i := 1) rfl) rfl), by decide, by decide, by decide +kernel⟩
theorem yl_X12_floats : YL yX12_floats cX12_floats 2 (some .int) 1 := ⟨(gm8 (List.mem_of_getElem? (i := 112) rfl) rfl), (gm1 (List.mem_of_getElem? (i := 18) rfl) rfl), by decide, by decide, by decide +kernel⟩
theorem yl_X11_gap : YL yX11_gap cX11_gap 3 (some .int) 2 := ⟨(gm4 (List.mem_of_getElem? (i := 157) rfl) rfl), (gm1 (List.mem_of_getElem? (i := 1) rfl) rfl), by decide, by decide, by decide +kernel⟩
theorem yl_X12_gap : YL yX12_gap cX12_gap 3 (some .int) 2 := ⟨(gm8 (List.mem_of_getElem? (i := 120) rfl) rfl), (gm1 (List.mem_of_getElem? (i := 18) rfl) rfl), by decide, by decide, by decide +kernel⟩
theorem yl_X11_move : YL yX11_move cX11_move 5 (some .int) 3 := ⟨(gm4 (List.mem_of_getElem? (i := 162) rfl) rfl), (gm1 (List.mem_of_getElem? (i := 1) rfl) rfl), by decide, by decide, by decide +kernel⟩
theorem yl_X12_move : YL yX12_move cX12_move 5 (some .int) 3 := ⟨(gm8 (List.mem_of_getElem? (i := 124) rfl) rfl), (gm1 (List.mem_of_getElem? (i := 18) rfl) rfl), by decide, by decide, by decide +kernel⟩
theorem yl_X11_wants : YL yX11_wants cX11_wants 2 (some .int) 1 := ⟨(gm4 (List.mem_of_getElem? (i := 193) rfl) rfl), (gm1 (List.mem_of_getElem? (i := 1) rfl) rfl), by decide, by decide, by decide +kernel⟩
theorem yl_X12_wants : YL yX12_wants cX12_wants 2 (some .int) 1 := ⟨(gm8 (List.mem_of_getElem? (i := 140) rfl) rfl), (gm1 (List.mem_of_getElem? (i := 18) rfl) rfl), by decide, by decide, by decide +kernel⟩
theorem yl_X11_plan : YL yX11_plan cX11_plan 2 (some .int) 0 := ⟨(gm4 (List.mem_of_getElem? (i := 227) rfl) rfl), (gm1 (List.mem_of_getElem? (i := 1) rfl) rfl), by decide, by decide, by decide +kernel⟩
theorem yl_X12_plan : YL yX12_plan cX12_plan 2 (some .int) 0 := ⟨(gm8 (List.mem_of_getElem? (i := 164) rfl) rfl), (gm1 (List.mem_of_getElem? (i := 18) rfl) rfl), by decide, by decide, by decide +kernel⟩
theorem yl_X12_act_ : YL yX12_act_ cX12_act_ 3 (some .int) 2 := ⟨(gm8 (List.mem_of_getElem? (i := 172) rfl) rfl), (gm1 (List.mem_of_getElem? (i := 18) rfl) rfl), by decide, by decide, by decide +kernel⟩
theorem yl_X11_judge : YL yX11_judge cX11_judge 3 (some .int) 1 := ⟨(gm5 (List.mem_of_getElem? (i := 25) rfl) rfl), (gm1 (List.mem_of_getElem? (i := 1) rfl) rfl), by decide, by decide, by decide +kernel⟩
theorem yl_X12_judge : YL yX12_judge cX12_judge 4 (some .int) 1 := ⟨(gm8 (List.mem_of_getElem? (i := 176) rfl) rfl), (gm1 (List.mem_of_getElem? (i := 18) rfl) rfl), by decide, by decide, by decide +kernel⟩
theorem yl_X11_judged : YL yX11_judged cX11_judged 2 (some .int) 1 := ⟨(gm5 (List.mem_of_getElem? (i := 55) rfl) rfl), (gm1 (List.mem_of_getElem? (i := 1) rfl) rfl), by decide, by decide, by decide +kernel⟩
theorem yl_X12_judged : YL yX12_judged cX12_judged 2 (some .int) 1 := ⟨(gm8 (List.mem_of_getElem? (i := 195) rfl) rfl), (gm1 (List.mem_of_getElem? (i := 18) rfl) rfl), by decide, by decide, by decide +kernel⟩
theorem yl_X11_judgedAt : YL yX11_judgedAt cX11_judgedAt 3 (some .int) 2 := ⟨(gm5 (List.mem_of_getElem? (i := 59) rfl) rfl), (gm1 (List.mem_of_getElem? (i := 1) rfl) rfl), by decide, by decide, by decide +kernel⟩
theorem yl_X12_judgedAt : YL yX12_judgedAt cX12_judgedAt 3 (some .int) 2 := ⟨(gm8 (List.mem_of_getElem? (i := 199) rfl) rfl), (gm1 (List.mem_of_getElem? (i := 18) rfl) rfl), by decide, by decide, by decide +kernel⟩
theorem yl_X11_tooMany : YL yX11_tooMany cX11_tooMany 3 (some .int) 1 := ⟨(gm5 (List.mem_of_getElem? (i := 66) rfl) rfl), (gm1 (List.mem_of_getElem? (i := 1) rfl) rfl), by decide, by decide, by decide +kernel⟩
theorem yl_X12_tooMany : YL yX12_tooMany cX12_tooMany 3 (some .int) 1 := ⟨(gm8 (List.mem_of_getElem? (i := 203) rfl) rfl), (gm1 (List.mem_of_getElem? (i := 18) rfl) rfl), by decide, by decide, by decide +kernel⟩
theorem yl_X11_instead : YL yX11_instead cX11_instead 4 (some .int) 1 := ⟨(gm5 (List.mem_of_getElem? (i := 75) rfl) rfl), (gm1 (List.mem_of_getElem? (i := 1) rfl) rfl), by decide, by decide, by decide +kernel⟩
theorem yl_X12_instead : YL yX12_instead cX12_instead 4 (some .int) 1 := ⟨(gm8 (List.mem_of_getElem? (i := 207) rfl) rfl), (gm1 (List.mem_of_getElem? (i := 18) rfl) rfl), by decide, by decide, by decide +kernel⟩
theorem yl_X11_least : YL yX11_least cX11_least 3 (some .int) 1 := ⟨(gm5 (List.mem_of_getElem? (i := 79) rfl) rfl), (gm1 (List.mem_of_getElem? (i := 1) rfl) rfl), by decide, by decide, by decide +kernel⟩
theorem yl_X12_least : YL yX12_least cX12_least 4 (some .int) 1 := ⟨(gm8 (List.mem_of_getElem? (i := 211) rfl) rfl), (gm1 (List.mem_of_getElem? (i := 18) rfl) rfl), by decide, by decide, by decide +kernel⟩
theorem yl_X11_changed : YL yX11_changed cX11_changed 6 (some .int) 3 := ⟨(gm5 (List.mem_of_getElem? (i := 185) rfl) rfl), (gm1 (List.mem_of_getElem? (i := 1) rfl) rfl), by decide, by decide, by decide +kernel⟩
theorem yl_X12_changed : YL yX12_changed cX12_changed 6 (some .int) 3 := ⟨(gm8 (List.mem_of_getElem? (i := 236) rfl) rfl), (gm1 (List.mem_of_getElem? (i := 18) rfl) rfl), by decide, by decide, by decide +kernel⟩
theorem yl_X11_alone : YL yX11_alone cX11_alone 7 (some .int) 5 := ⟨(gm5 (List.mem_of_getElem? (i := 190) rfl) rfl), (gm1 (List.mem_of_getElem? (i := 1) rfl) rfl), by decide, by decide, by decide +kernel⟩
theorem yl_X12_alone : YL yX12_alone cX12_alone 13 (some .int) 5 := ⟨(gm9 (List.mem_of_getElem? (i := 4) rfl) rfl), (gm1 (List.mem_of_getElem? (i := 18) rfl) rfl), by decide, by decide, by decide +kernel⟩
theorem yl_X11_best : YL yX11_best cX11_best 3 (some .int) 2 := ⟨(gm5 (List.mem_of_getElem? (i := 211) rfl) rfl), (gm1 (List.mem_of_getElem? (i := 1) rfl) rfl), by decide, by decide, by decide +kernel⟩
theorem yl_X12_best : YL yX12_best cX12_best 6 (some .int) 2 := ⟨(gm9 (List.mem_of_getElem? (i := 0) rfl) rfl), (gm1 (List.mem_of_getElem? (i := 18) rfl) rfl), by decide, by decide, by decide +kernel⟩
theorem yl_X11_found : YL yX11_found cX11_found 2 (some .int) 1 := ⟨(gm6 (List.mem_of_getElem? (i := 4) rfl) rfl), (gm1 (List.mem_of_getElem? (i := 1) rfl) rfl), by decide, by decide, by decide +kernel⟩
theorem yl_X12_found : YL yX12_found cX12_found 2 (some .int) 1 := ⟨(gm9 (List.mem_of_getElem? (i := 20) rfl) rfl), (gm1 (List.mem_of_getElem? (i := 18) rfl) rfl), by decide, by decide, by decide +kernel⟩
theorem yl_X11_all : YL yX11_all cX11_all 1 (some .int) 0 := ⟨(gm6 (List.mem_of_getElem? (i := 8) rfl) rfl), (gm1 (List.mem_of_getElem? (i := 1) rfl) rfl), by decide, by decide, by decide +kernel⟩
theorem yl_X12_all : YL yX12_all cX12_all 9 (some .int) 0 := ⟨(gm9 (List.mem_of_getElem? (i := 24) rfl) rfl), (gm1 (List.mem_of_getElem? (i := 18) rfl) rfl), by decide, by decide, by decide +kernel⟩
theorem yl_X11_allAt : YL yX11_allAt cX11_allAt 3 (some .int) 2 := ⟨(gm6 (List.mem_of_getElem? (i := 22) rfl) rfl), (gm1 (List.mem_of_getElem? (i := 1) rfl) rfl), by decide, by decide, by decide +kernel⟩
theorem yl_X12_allAt : YL yX12_allAt cX12_allAt 3 (some .int) 2 := ⟨(gm9 (List.mem_of_getElem? (i := 32) rfl) rfl), (gm1 (List.mem_of_getElem? (i := 18) rfl) rfl), by decide, by decide, by decide +kernel⟩
theorem yl_X11_left : YL yX11_left cX11_left 1 (some .int) 0 := ⟨(gm6 (List.mem_of_getElem? (i := 26) rfl) rfl), (gm1 (List.mem_of_getElem? (i := 1) rfl) rfl), by decide, by decide, by decide +kernel⟩
theorem yl_X12_left : YL yX12_left cX12_left 1 (some .int) 0 := ⟨(gm9 (List.mem_of_getElem? (i := 36) rfl) rfl), (gm1 (List.mem_of_getElem? (i := 18) rfl) rfl), by decide, by decide, by decide +kernel⟩
theorem yl_X11_could : YL yX11_could cX11_could 8 (some .int) 4 := ⟨(gm6 (List.mem_of_getElem? (i := 30) rfl) rfl), (gm1 (List.mem_of_getElem? (i := 1) rfl) rfl), by decide, by decide, by decide +kernel⟩
theorem yl_X12_could : YL yX12_could cX12_could 5 (some .int) 4 := ⟨(gm9 (List.mem_of_getElem? (i := 40) rfl) rfl), (gm1 (List.mem_of_getElem? (i := 18) rfl) rfl), by decide, by decide, by decide +kernel⟩
theorem yl_X11_storm : YL yX11_storm cX11_storm 4 (some .int) 1 := ⟨(gm6 (List.mem_of_getElem? (i := 37) rfl) rfl), (gm1 (List.mem_of_getElem? (i := 1) rfl) rfl), by decide, by decide, by decide +kernel⟩
theorem yl_X12_storm : YL yX12_storm cX12_storm 4 (some .int) 1 := ⟨(gm9 (List.mem_of_getElem? (i := 44) rfl) rfl), (gm1 (List.mem_of_getElem? (i := 18) rfl) rfl), by decide, by decide, by decide +kernel⟩
theorem yl_X11_cut : YL yX11_cut cX11_cut 5 (some .int) 3 := ⟨(gm6 (List.mem_of_getElem? (i := 49) rfl) rfl), (gm1 (List.mem_of_getElem? (i := 1) rfl) rfl), by decide, by decide, by decide +kernel⟩
theorem yl_X12_cut : YL yX12_cut cX12_cut 9 (some .int) 3 := ⟨(gm9 (List.mem_of_getElem? (i := 56) rfl) rfl), (gm1 (List.mem_of_getElem? (i := 18) rfl) rfl), by decide, by decide, by decide +kernel⟩
theorem yl_X11_image : YL yX11_image cX11_image 2 (some .boolean) 1 := ⟨(gm6 (List.mem_of_getElem? (i := 69) rfl) rfl), (gm1 (List.mem_of_getElem? (i := 1) rfl) rfl), by decide, by decide, by decide +kernel⟩
theorem yl_X12_image : YL yX12_image cX12_image 3 (some .boolean) 1 := ⟨(gm9 (List.mem_of_getElem? (i := 63) rfl) rfl), (gm1 (List.mem_of_getElem? (i := 18) rfl) rfl), by decide, by decide, by decide +kernel⟩
theorem yl_X11_restore : YL yX11_restore cX11_restore 2 (some .boolean) 1 := ⟨(gm6 (List.mem_of_getElem? (i := 94) rfl) rfl), (gm1 (List.mem_of_getElem? (i := 1) rfl) rfl), by decide, by decide, by decide +kernel⟩
theorem yl_X12_restore : YL yX12_restore cX12_restore 3 (some .boolean) 1 := ⟨(gm9 (List.mem_of_getElem? (i := 67) rfl) rfl), (gm1 (List.mem_of_getElem? (i := 18) rfl) rfl), by decide, by decide, by decide +kernel⟩
theorem yl_X11_count : YL yX11_count cX11_count 2 (some .int) 1 := ⟨(gm6 (List.mem_of_getElem? (i := 98) rfl) rfl), (gm1 (List.mem_of_getElem? (i := 1) rfl) rfl), by decide, by decide, by decide +kernel⟩
theorem yl_X12_count : YL yX12_count cX12_count 2 (some .int) 1 := ⟨(gm9 (List.mem_of_getElem? (i := 71) rfl) rfl), (gm1 (List.mem_of_getElem? (i := 18) rfl) rfl), by decide, by decide, by decide +kernel⟩
theorem dL_law_0 : decode cL_law 0 = .ok (.new 8, 3) := by decide +kernel
theorem dL_law_3 : decode cL_law 3 = .ok (.dup, 1) := by decide +kernel
theorem dL_law_4 : decode cL_law 4 = .ok (.invokespecial 18, 3) := by decide +kernel
theorem dL_law_7 : decode cL_law 7 = .ok (.astore_n 1, 1) := by decide +kernel
theorem dL_law_8 : decode cL_law 8 = .ok (.new 19, 3) := by decide +kernel
theorem dL_law_11 : decode cL_law 11 = .ok (.dup, 1) := by decide +kernel
theorem dL_law_12 : decode cL_law 12 = .ok (.invokespecial 21, 3) := by decide +kernel
theorem dL_law_15 : decode cL_law 15 = .ok (.astore_n 2, 1) := by decide +kernel
theorem dL_law_16 : decode cL_law 16 = .ok (.iconst 1, 1) := by decide +kernel
theorem dL_law_17 : decode cL_law 17 = .ok (.newarray .long, 2) := by decide +kernel
theorem dL_law_19 : decode cL_law 19 = .ok (.astore_n 3, 1) := by decide +kernel
theorem dL_law_20 : decode cL_law 20 = .ok (.iconst 0, 1) := by decide +kernel
theorem dL_law_21 : decode cL_law 21 = .ok (.istore 4, 2) := by decide +kernel
theorem dL_law_23 : decode cL_law 23 = .ok (.iload 4, 2) := by decide +kernel
theorem dL_law_25 : decode cL_law 25 = .ok (.aload_n 0, 1) := by decide +kernel
theorem dL_law_26 : decode cL_law 26 = .ok (.arraylength, 1) := by decide +kernel
theorem dL_law_27 : decode cL_law 27 = .ok (.bipush 6, 2) := by decide +kernel
theorem dL_law_29 : decode cL_law 29 = .ok (.isub, 1) := by decide +kernel
theorem dL_law_30 : decode cL_law 30 = .ok (.if_icmp .gt 1349, 3) := by decide +kernel
theorem dL_law_33 : decode cL_law 33 = .ok (.aload_n 0, 1) := by decide +kernel
theorem dL_law_34 : decode cL_law 34 = .ok (.iload 4, 2) := by decide +kernel
theorem dL_law_36 : decode cL_law 36 = .ok (.iaload, 1) := by decide +kernel
theorem dL_law_37 : decode cL_law 37 = .ok (.bipush 63, 2) := by decide +kernel
theorem dL_law_39 : decode cL_law 39 = .ok (.iand, 1) := by decide +kernel
theorem dL_law_40 : decode cL_law 40 = .ok (.tableswitch 1333 0 34 #[156, 229, 254, 267, 280, 329, 397, 434, 447, 472, 497, 522, 559, 608, 633, 646, 714, 739, 764, 801, 826, 851, 876, 925, 998, 1035, 1060, 1073, 1110, 1123, 1184, 1209, 1258, 1283, 1308], 156) := by decide +kernel
theorem dL_law_196 : decode cL_law 196 = .ok (.aload_n 1, 1) := by decide +kernel
theorem dL_law_197 : decode cL_law 197 = .ok (.aload_n 0, 1) := by decide +kernel
theorem dL_law_198 : decode cL_law 198 = .ok (.iload 4, 2) := by decide +kernel
theorem dL_law_200 : decode cL_law 200 = .ok (.iconst 1, 1) := by decide +kernel
theorem dL_law_201 : decode cL_law 201 = .ok (.iadd, 1) := by decide +kernel
theorem dL_law_202 : decode cL_law 202 = .ok (.iaload, 1) := by decide +kernel
theorem dL_law_203 : decode cL_law 203 = .ok (.aload_n 0, 1) := by decide +kernel
theorem dL_law_204 : decode cL_law 204 = .ok (.iload 4, 2) := by decide +kernel
theorem dL_law_206 : decode cL_law 206 = .ok (.iconst 2, 1) := by decide +kernel
theorem dL_law_207 : decode cL_law 207 = .ok (.iadd, 1) := by decide +kernel
theorem dL_law_208 : decode cL_law 208 = .ok (.iaload, 1) := by decide +kernel
theorem dL_law_209 : decode cL_law 209 = .ok (.aload_n 0, 1) := by decide +kernel
theorem dL_law_210 : decode cL_law 210 = .ok (.iload 4, 2) := by decide +kernel
theorem dL_law_212 : decode cL_law 212 = .ok (.iconst 3, 1) := by decide +kernel
theorem dL_law_213 : decode cL_law 213 = .ok (.iadd, 1) := by decide +kernel
theorem dL_law_214 : decode cL_law 214 = .ok (.iaload, 1) := by decide +kernel
theorem dL_law_215 : decode cL_law 215 = .ok (.aload_n 0, 1) := by decide +kernel
theorem dL_law_216 : decode cL_law 216 = .ok (.iload 4, 2) := by decide +kernel
theorem dL_law_218 : decode cL_law 218 = .ok (.iconst 4, 1) := by decide +kernel
theorem dL_law_219 : decode cL_law 219 = .ok (.iadd, 1) := by decide +kernel
theorem dL_law_220 : decode cL_law 220 = .ok (.iaload, 1) := by decide +kernel
theorem dL_law_221 : decode cL_law 221 = .ok (.aload_n 0, 1) := by decide +kernel
theorem dL_law_222 : decode cL_law 222 = .ok (.iload 4, 2) := by decide +kernel
theorem dL_law_224 : decode cL_law 224 = .ok (.iconst 5, 1) := by decide +kernel
theorem dL_law_225 : decode cL_law 225 = .ok (.iadd, 1) := by decide +kernel
theorem dL_law_226 : decode cL_law 226 = .ok (.iaload, 1) := by decide +kernel
theorem dL_law_227 : decode cL_law 227 = .ok (.invokevirtual 22, 3) := by decide +kernel
theorem dL_law_230 : decode cL_law 230 = .ok (.aload_n 2, 1) := by decide +kernel
theorem dL_law_231 : decode cL_law 231 = .ok (.aload_n 0, 1) := by decide +kernel
theorem dL_law_232 : decode cL_law 232 = .ok (.iload 4, 2) := by decide +kernel
theorem dL_law_234 : decode cL_law 234 = .ok (.iconst 1, 1) := by decide +kernel
theorem dL_law_235 : decode cL_law 235 = .ok (.iadd, 1) := by decide +kernel
theorem dL_law_236 : decode cL_law 236 = .ok (.iaload, 1) := by decide +kernel
theorem dL_law_237 : decode cL_law 237 = .ok (.aload_n 0, 1) := by decide +kernel
theorem dL_law_238 : decode cL_law 238 = .ok (.iload 4, 2) := by decide +kernel
theorem dL_law_240 : decode cL_law 240 = .ok (.iconst 2, 1) := by decide +kernel
theorem dL_law_241 : decode cL_law 241 = .ok (.iadd, 1) := by decide +kernel
theorem dL_law_242 : decode cL_law 242 = .ok (.iaload, 1) := by decide +kernel
theorem dL_law_243 : decode cL_law 243 = .ok (.aload_n 0, 1) := by decide +kernel
theorem dL_law_244 : decode cL_law 244 = .ok (.iload 4, 2) := by decide +kernel
theorem dL_law_246 : decode cL_law 246 = .ok (.iconst 3, 1) := by decide +kernel
theorem dL_law_247 : decode cL_law 247 = .ok (.iadd, 1) := by decide +kernel
theorem dL_law_248 : decode cL_law 248 = .ok (.iaload, 1) := by decide +kernel
theorem dL_law_249 : decode cL_law 249 = .ok (.aload_n 0, 1) := by decide +kernel
theorem dL_law_250 : decode cL_law 250 = .ok (.iload 4, 2) := by decide +kernel
theorem dL_law_252 : decode cL_law 252 = .ok (.iconst 4, 1) := by decide +kernel
theorem dL_law_253 : decode cL_law 253 = .ok (.iadd, 1) := by decide +kernel
theorem dL_law_254 : decode cL_law 254 = .ok (.iaload, 1) := by decide +kernel
theorem dL_law_255 : decode cL_law 255 = .ok (.aload_n 0, 1) := by decide +kernel
theorem dL_law_256 : decode cL_law 256 = .ok (.iload 4, 2) := by decide +kernel
theorem dL_law_258 : decode cL_law 258 = .ok (.iconst 5, 1) := by decide +kernel
theorem dL_law_259 : decode cL_law 259 = .ok (.iadd, 1) := by decide +kernel
theorem dL_law_260 : decode cL_law 260 = .ok (.iaload, 1) := by decide +kernel
theorem dL_law_261 : decode cL_law 261 = .ok (.invokevirtual 26, 3) := by decide +kernel
theorem dL_law_264 : decode cL_law 264 = .ok (.if_icmp .eq 1109, 3) := by decide +kernel
theorem dL_law_267 : decode cL_law 267 = .ok (.iconst 0, 1) := by decide +kernel
theorem dL_law_268 : decode cL_law 268 = .ok (.ireturn, 1) := by decide +kernel
theorem dL_law_269 : decode cL_law 269 = .ok (.aload_n 1, 1) := by decide +kernel
theorem dL_law_270 : decode cL_law 270 = .ok (.aload_n 0, 1) := by decide +kernel
theorem dL_law_271 : decode cL_law 271 = .ok (.iload 4, 2) := by decide +kernel
theorem dL_law_273 : decode cL_law 273 = .ok (.iconst 1, 1) := by decide +kernel
theorem dL_law_274 : decode cL_law 274 = .ok (.iadd, 1) := by decide +kernel
theorem dL_law_275 : decode cL_law 275 = .ok (.iaload, 1) := by decide +kernel
theorem dL_law_276 : decode cL_law 276 = .ok (.invokevirtual 27, 3) := by decide +kernel
theorem dL_law_279 : decode cL_law 279 = .ok (.aload_n 2, 1) := by decide +kernel
theorem dL_law_280 : decode cL_law 280 = .ok (.aload_n 0, 1) := by decide +kernel
theorem dL_law_281 : decode cL_law 281 = .ok (.iload 4, 2) := by decide +kernel
theorem dL_law_283 : decode cL_law 283 = .ok (.iconst 1, 1) := by decide +kernel
theorem dL_law_284 : decode cL_law 284 = .ok (.iadd, 1) := by decide +kernel
theorem dL_law_285 : decode cL_law 285 = .ok (.iaload, 1) := by decide +kernel
theorem dL_law_286 : decode cL_law 286 = .ok (.invokevirtual 31, 3) := by decide +kernel
theorem dL_law_289 : decode cL_law 289 = .ok (.if_icmp .eq 1084, 3) := by decide +kernel
theorem dL_law_292 : decode cL_law 292 = .ok (.iconst 0, 1) := by decide +kernel
theorem dL_law_293 : decode cL_law 293 = .ok (.ireturn, 1) := by decide +kernel
theorem dL_law_294 : decode cL_law 294 = .ok (.aload_n 1, 1) := by decide +kernel
theorem dL_law_295 : decode cL_law 295 = .ok (.invokevirtual 32, 3) := by decide +kernel
theorem dL_law_298 : decode cL_law 298 = .ok (.aload_n 2, 1) := by decide +kernel
theorem dL_law_299 : decode cL_law 299 = .ok (.invokevirtual 36, 3) := by decide +kernel
theorem dL_law_302 : decode cL_law 302 = .ok (.if_icmp .eq 1071, 3) := by decide +kernel
theorem dL_law_305 : decode cL_law 305 = .ok (.iconst 0, 1) := by decide +kernel
theorem dL_law_306 : decode cL_law 306 = .ok (.ireturn, 1) := by decide +kernel
theorem dL_law_307 : decode cL_law 307 = .ok (.aload_n 1, 1) := by decide +kernel
theorem dL_law_308 : decode cL_law 308 = .ok (.invokevirtual 37, 3) := by decide +kernel
theorem dL_law_311 : decode cL_law 311 = .ok (.aload_n 2, 1) := by decide +kernel
theorem dL_law_312 : decode cL_law 312 = .ok (.invokevirtual 40, 3) := by decide +kernel
theorem dL_law_315 : decode cL_law 315 = .ok (.if_icmp .eq 1058, 3) := by decide +kernel
theorem dL_law_318 : decode cL_law 318 = .ok (.iconst 0, 1) := by decide +kernel
theorem dL_law_319 : decode cL_law 319 = .ok (.ireturn, 1) := by decide +kernel
theorem dL_law_320 : decode cL_law 320 = .ok (.aload_n 1, 1) := by decide +kernel
theorem dL_law_321 : decode cL_law 321 = .ok (.aload_n 0, 1) := by decide +kernel
theorem dL_law_322 : decode cL_law 322 = .ok (.iload 4, 2) := by decide +kernel
theorem dL_law_324 : decode cL_law 324 = .ok (.iconst 1, 1) := by decide +kernel
theorem dL_law_325 : decode cL_law 325 = .ok (.iadd, 1) := by decide +kernel
theorem dL_law_326 : decode cL_law 326 = .ok (.iaload, 1) := by decide +kernel
theorem dL_law_327 : decode cL_law 327 = .ok (.aload_n 0, 1) := by decide +kernel
theorem dL_law_328 : decode cL_law 328 = .ok (.iload 4, 2) := by decide +kernel
theorem dL_law_330 : decode cL_law 330 = .ok (.iconst 2, 1) := by decide +kernel
theorem dL_law_331 : decode cL_law 331 = .ok (.iadd, 1) := by decide +kernel
theorem dL_law_332 : decode cL_law 332 = .ok (.iaload, 1) := by decide +kernel
theorem dL_law_333 : decode cL_law 333 = .ok (.aload_n 0, 1) := by decide +kernel
theorem dL_law_334 : decode cL_law 334 = .ok (.iload 4, 2) := by decide +kernel
theorem dL_law_336 : decode cL_law 336 = .ok (.iconst 3, 1) := by decide +kernel
theorem dL_law_337 : decode cL_law 337 = .ok (.iadd, 1) := by decide +kernel
theorem dL_law_338 : decode cL_law 338 = .ok (.iaload, 1) := by decide +kernel
theorem dL_law_339 : decode cL_law 339 = .ok (.invokevirtual 41, 3) := by decide +kernel
theorem dL_law_342 : decode cL_law 342 = .ok (.aload_n 2, 1) := by decide +kernel
theorem dL_law_343 : decode cL_law 343 = .ok (.aload_n 0, 1) := by decide +kernel
theorem dL_law_344 : decode cL_law 344 = .ok (.iload 4, 2) := by decide +kernel
theorem dL_law_346 : decode cL_law 346 = .ok (.iconst 1, 1) := by decide +kernel
theorem dL_law_347 : decode cL_law 347 = .ok (.iadd, 1) := by decide +kernel
theorem dL_law_348 : decode cL_law 348 = .ok (.iaload, 1) := by decide +kernel
theorem dL_law_349 : decode cL_law 349 = .ok (.aload_n 0, 1) := by decide +kernel
theorem dL_law_350 : decode cL_law 350 = .ok (.iload 4, 2) := by decide +kernel
theorem dL_law_352 : decode cL_law 352 = .ok (.iconst 2, 1) := by decide +kernel
theorem dL_law_353 : decode cL_law 353 = .ok (.iadd, 1) := by decide +kernel
theorem dL_law_354 : decode cL_law 354 = .ok (.iaload, 1) := by decide +kernel
theorem dL_law_355 : decode cL_law 355 = .ok (.aload_n 0, 1) := by decide +kernel
theorem dL_law_356 : decode cL_law 356 = .ok (.iload 4, 2) := by decide +kernel
theorem dL_law_358 : decode cL_law 358 = .ok (.iconst 3, 1) := by decide +kernel
theorem dL_law_359 : decode cL_law 359 = .ok (.iadd, 1) := by decide +kernel
theorem dL_law_360 : decode cL_law 360 = .ok (.iaload, 1) := by decide +kernel
theorem dL_law_361 : decode cL_law 361 = .ok (.invokevirtual 45, 3) := by decide +kernel
theorem dL_law_364 : decode cL_law 364 = .ok (.if_icmp .eq 1009, 3) := by decide +kernel
theorem dL_law_367 : decode cL_law 367 = .ok (.iconst 0, 1) := by decide +kernel
theorem dL_law_368 : decode cL_law 368 = .ok (.ireturn, 1) := by decide +kernel
theorem dL_law_369 : decode cL_law 369 = .ok (.aload_n 1, 1) := by decide +kernel
theorem dL_law_370 : decode cL_law 370 = .ok (.aload_n 0, 1) := by decide +kernel
theorem dL_law_371 : decode cL_law 371 = .ok (.iload 4, 2) := by decide +kernel
theorem dL_law_373 : decode cL_law 373 = .ok (.iconst 1, 1) := by decide +kernel
theorem dL_law_374 : decode cL_law 374 = .ok (.iadd, 1) := by decide +kernel
theorem dL_law_375 : decode cL_law 375 = .ok (.iaload, 1) := by decide +kernel
theorem dL_law_376 : decode cL_law 376 = .ok (.aload_n 0, 1) := by decide +kernel
theorem dL_law_377 : decode cL_law 377 = .ok (.iload 4, 2) := by decide +kernel
theorem dL_law_379 : decode cL_law 379 = .ok (.iconst 2, 1) := by decide +kernel
theorem dL_law_380 : decode cL_law 380 = .ok (.iadd, 1) := by decide +kernel
theorem dL_law_381 : decode cL_law 381 = .ok (.iaload, 1) := by decide +kernel
theorem dL_law_382 : decode cL_law 382 = .ok (.aload_n 3, 1) := by decide +kernel
theorem dL_law_383 : decode cL_law 383 = .ok (.invokestatic 46, 3) := by decide +kernel
theorem dL_law_386 : decode cL_law 386 = .ok (.istore 5, 2) := by decide +kernel
theorem dL_law_388 : decode cL_law 388 = .ok (.aload_n 2, 1) := by decide +kernel
theorem dL_law_389 : decode cL_law 389 = .ok (.aload_n 0, 1) := by decide +kernel
theorem dL_law_390 : decode cL_law 390 = .ok (.iload 4, 2) := by decide +kernel
theorem dL_law_392 : decode cL_law 392 = .ok (.iconst 1, 1) := by decide +kernel
theorem dL_law_393 : decode cL_law 393 = .ok (.iadd, 1) := by decide +kernel
theorem dL_law_394 : decode cL_law 394 = .ok (.iaload, 1) := by decide +kernel
theorem dL_law_395 : decode cL_law 395 = .ok (.aload_n 0, 1) := by decide +kernel
theorem dL_law_396 : decode cL_law 396 = .ok (.iload 4, 2) := by decide +kernel
theorem dL_law_398 : decode cL_law 398 = .ok (.iconst 2, 1) := by decide +kernel
theorem dL_law_399 : decode cL_law 399 = .ok (.iadd, 1) := by decide +kernel
theorem dL_law_400 : decode cL_law 400 = .ok (.iaload, 1) := by decide +kernel
theorem dL_law_401 : decode cL_law 401 = .ok (.invokevirtual 51, 3) := by decide +kernel
theorem dL_law_404 : decode cL_law 404 = .ok (.istore 6, 2) := by decide +kernel
theorem dL_law_406 : decode cL_law 406 = .ok (.aload_n 2, 1) := by decide +kernel
theorem dL_law_407 : decode cL_law 407 = .ok (.invokevirtual 52, 3) := by decide +kernel
theorem dL_law_410 : decode cL_law 410 = .ok (.iload 5, 2) := by decide +kernel
theorem dL_law_412 : decode cL_law 412 = .ok (.if_icmp .eq 5, 3) := by decide +kernel
theorem dL_law_415 : decode cL_law 415 = .ok (.iconst 0, 1) := by decide +kernel
theorem dL_law_416 : decode cL_law 416 = .ok (.ireturn, 1) := by decide +kernel
theorem dL_law_417 : decode cL_law 417 = .ok (.iload 5, 2) := by decide +kernel
theorem dL_law_419 : decode cL_law 419 = .ok (.ifCond .ne 15, 3) := by decide +kernel
theorem dL_law_422 : decode cL_law 422 = .ok (.aload_n 3, 1) := by decide +kernel
theorem dL_law_423 : decode cL_law 423 = .ok (.iconst 0, 1) := by decide +kernel
theorem dL_law_424 : decode cL_law 424 = .ok (.laload, 1) := by decide +kernel
theorem dL_law_425 : decode cL_law 425 = .ok (.iload 6, 2) := by decide +kernel
theorem dL_law_427 : decode cL_law 427 = .ok (.i2l, 1) := by decide +kernel
theorem dL_law_428 : decode cL_law 428 = .ok (.lcmp, 1) := by decide +kernel
theorem dL_law_429 : decode cL_law 429 = .ok (.ifCond .eq 5, 3) := by decide +kernel
theorem dL_law_432 : decode cL_law 432 = .ok (.iconst 0, 1) := by decide +kernel
theorem dL_law_433 : decode cL_law 433 = .ok (.ireturn, 1) := by decide +kernel
theorem dL_law_434 : decode cL_law 434 = .ok (.goto 939, 3) := by decide +kernel
theorem dL_law_437 : decode cL_law 437 = .ok (.aload_n 1, 1) := by decide +kernel
theorem dL_law_438 : decode cL_law 438 = .ok (.aload_n 0, 1) := by decide +kernel
theorem dL_law_439 : decode cL_law 439 = .ok (.iload 4, 2) := by decide +kernel
theorem dL_law_441 : decode cL_law 441 = .ok (.iconst 1, 1) := by decide +kernel
theorem dL_law_442 : decode cL_law 442 = .ok (.iadd, 1) := by decide +kernel
theorem dL_law_443 : decode cL_law 443 = .ok (.iaload, 1) := by decide +kernel
theorem dL_law_444 : decode cL_law 444 = .ok (.aload_n 0, 1) := by decide +kernel
theorem dL_law_445 : decode cL_law 445 = .ok (.iload 4, 2) := by decide +kernel
theorem dL_law_447 : decode cL_law 447 = .ok (.iconst 2, 1) := by decide +kernel
theorem dL_law_448 : decode cL_law 448 = .ok (.iadd, 1) := by decide +kernel
theorem dL_law_449 : decode cL_law 449 = .ok (.iaload, 1) := by decide +kernel
theorem dL_law_450 : decode cL_law 450 = .ok (.invokevirtual 55, 3) := by decide +kernel
theorem dL_law_453 : decode cL_law 453 = .ok (.aload_n 2, 1) := by decide +kernel
theorem dL_law_454 : decode cL_law 454 = .ok (.aload_n 0, 1) := by decide +kernel
theorem dL_law_455 : decode cL_law 455 = .ok (.iload 4, 2) := by decide +kernel
theorem dL_law_457 : decode cL_law 457 = .ok (.iconst 1, 1) := by decide +kernel
theorem dL_law_458 : decode cL_law 458 = .ok (.iadd, 1) := by decide +kernel
theorem dL_law_459 : decode cL_law 459 = .ok (.iaload, 1) := by decide +kernel
theorem dL_law_460 : decode cL_law 460 = .ok (.aload_n 0, 1) := by decide +kernel
theorem dL_law_461 : decode cL_law 461 = .ok (.iload 4, 2) := by decide +kernel
theorem dL_law_463 : decode cL_law 463 = .ok (.iconst 2, 1) := by decide +kernel
theorem dL_law_464 : decode cL_law 464 = .ok (.iadd, 1) := by decide +kernel
theorem dL_law_465 : decode cL_law 465 = .ok (.iaload, 1) := by decide +kernel
theorem dL_law_466 : decode cL_law 466 = .ok (.invokevirtual 58, 3) := by decide +kernel
theorem dL_law_469 : decode cL_law 469 = .ok (.if_icmp .eq 904, 3) := by decide +kernel
theorem dL_law_472 : decode cL_law 472 = .ok (.iconst 0, 1) := by decide +kernel
theorem dL_law_473 : decode cL_law 473 = .ok (.ireturn, 1) := by decide +kernel
theorem dL_law_474 : decode cL_law 474 = .ok (.aload_n 1, 1) := by decide +kernel
theorem dL_law_475 : decode cL_law 475 = .ok (.invokevirtual 59, 3) := by decide +kernel
theorem dL_law_478 : decode cL_law 478 = .ok (.aload_n 2, 1) := by decide +kernel
theorem dL_law_479 : decode cL_law 479 = .ok (.invokevirtual 63, 3) := by decide +kernel
theorem dL_law_482 : decode cL_law 482 = .ok (.if_icmp .eq 891, 3) := by decide +kernel
theorem dL_law_485 : decode cL_law 485 = .ok (.iconst 0, 1) := by decide +kernel
theorem dL_law_486 : decode cL_law 486 = .ok (.ireturn, 1) := by decide +kernel
theorem dL_law_487 : decode cL_law 487 = .ok (.aload_n 1, 1) := by decide +kernel
theorem dL_law_488 : decode cL_law 488 = .ok (.aload_n 0, 1) := by decide +kernel
theorem dL_law_489 : decode cL_law 489 = .ok (.iload 4, 2) := by decide +kernel
theorem dL_law_491 : decode cL_law 491 = .ok (.iconst 1, 1) := by decide +kernel
theorem dL_law_492 : decode cL_law 492 = .ok (.iadd, 1) := by decide +kernel
theorem dL_law_493 : decode cL_law 493 = .ok (.iaload, 1) := by decide +kernel
theorem dL_law_494 : decode cL_law 494 = .ok (.invokevirtual 64, 3) := by decide +kernel
theorem dL_law_497 : decode cL_law 497 = .ok (.aload_n 2, 1) := by decide +kernel
theorem dL_law_498 : decode cL_law 498 = .ok (.aload_n 0, 1) := by decide +kernel
theorem dL_law_499 : decode cL_law 499 = .ok (.iload 4, 2) := by decide +kernel
theorem dL_law_501 : decode cL_law 501 = .ok (.iconst 1, 1) := by decide +kernel
theorem dL_law_502 : decode cL_law 502 = .ok (.iadd, 1) := by decide +kernel
theorem dL_law_503 : decode cL_law 503 = .ok (.iaload, 1) := by decide +kernel
theorem dL_law_504 : decode cL_law 504 = .ok (.invokevirtual 68, 3) := by decide +kernel
theorem dL_law_507 : decode cL_law 507 = .ok (.if_icmp .eq 866, 3) := by decide +kernel
theorem dL_law_510 : decode cL_law 510 = .ok (.iconst 0, 1) := by decide +kernel
theorem dL_law_511 : decode cL_law 511 = .ok (.ireturn, 1) := by decide +kernel
theorem dL_law_512 : decode cL_law 512 = .ok (.aload_n 1, 1) := by decide +kernel
theorem dL_law_513 : decode cL_law 513 = .ok (.aload_n 0, 1) := by decide +kernel
theorem dL_law_514 : decode cL_law 514 = .ok (.iload 4, 2) := by decide +kernel
theorem dL_law_516 : decode cL_law 516 = .ok (.iconst 1, 1) := by decide +kernel
theorem dL_law_517 : decode cL_law 517 = .ok (.iadd, 1) := by decide +kernel
theorem dL_law_518 : decode cL_law 518 = .ok (.iaload, 1) := by decide +kernel
theorem dL_law_519 : decode cL_law 519 = .ok (.invokevirtual 69, 3) := by decide +kernel
theorem dL_law_522 : decode cL_law 522 = .ok (.aload_n 2, 1) := by decide +kernel
theorem dL_law_523 : decode cL_law 523 = .ok (.aload_n 0, 1) := by decide +kernel
theorem dL_law_524 : decode cL_law 524 = .ok (.iload 4, 2) := by decide +kernel
theorem dL_law_526 : decode cL_law 526 = .ok (.iconst 1, 1) := by decide +kernel
theorem dL_law_527 : decode cL_law 527 = .ok (.iadd, 1) := by decide +kernel
theorem dL_law_528 : decode cL_law 528 = .ok (.iaload, 1) := by decide +kernel
theorem dL_law_529 : decode cL_law 529 = .ok (.invokevirtual 72, 3) := by decide +kernel
theorem dL_law_532 : decode cL_law 532 = .ok (.if_icmp .eq 841, 3) := by decide +kernel
theorem dL_law_535 : decode cL_law 535 = .ok (.iconst 0, 1) := by decide +kernel
theorem dL_law_536 : decode cL_law 536 = .ok (.ireturn, 1) := by decide +kernel
theorem dL_law_537 : decode cL_law 537 = .ok (.aload_n 1, 1) := by decide +kernel
theorem dL_law_538 : decode cL_law 538 = .ok (.aload_n 0, 1) := by decide +kernel
theorem dL_law_539 : decode cL_law 539 = .ok (.iload 4, 2) := by decide +kernel
theorem dL_law_541 : decode cL_law 541 = .ok (.iconst 1, 1) := by decide +kernel
theorem dL_law_542 : decode cL_law 542 = .ok (.iadd, 1) := by decide +kernel
theorem dL_law_543 : decode cL_law 543 = .ok (.iaload, 1) := by decide +kernel
theorem dL_law_544 : decode cL_law 544 = .ok (.invokevirtual 73, 3) := by decide +kernel
theorem dL_law_547 : decode cL_law 547 = .ok (.aload_n 2, 1) := by decide +kernel
theorem dL_law_548 : decode cL_law 548 = .ok (.aload_n 0, 1) := by decide +kernel
theorem dL_law_549 : decode cL_law 549 = .ok (.iload 4, 2) := by decide +kernel
theorem dL_law_551 : decode cL_law 551 = .ok (.iconst 1, 1) := by decide +kernel
theorem dL_law_552 : decode cL_law 552 = .ok (.iadd, 1) := by decide +kernel
theorem dL_law_553 : decode cL_law 553 = .ok (.iaload, 1) := by decide +kernel
theorem dL_law_554 : decode cL_law 554 = .ok (.invokevirtual 76, 3) := by decide +kernel
theorem dL_law_557 : decode cL_law 557 = .ok (.if_icmp .eq 816, 3) := by decide +kernel
theorem dL_law_560 : decode cL_law 560 = .ok (.iconst 0, 1) := by decide +kernel
theorem dL_law_561 : decode cL_law 561 = .ok (.ireturn, 1) := by decide +kernel
theorem dL_law_562 : decode cL_law 562 = .ok (.aload_n 1, 1) := by decide +kernel
theorem dL_law_563 : decode cL_law 563 = .ok (.aload_n 0, 1) := by decide +kernel
theorem dL_law_564 : decode cL_law 564 = .ok (.iload 4, 2) := by decide +kernel
theorem dL_law_566 : decode cL_law 566 = .ok (.iconst 1, 1) := by decide +kernel
theorem dL_law_567 : decode cL_law 567 = .ok (.iadd, 1) := by decide +kernel
theorem dL_law_568 : decode cL_law 568 = .ok (.iaload, 1) := by decide +kernel
theorem dL_law_569 : decode cL_law 569 = .ok (.aload_n 0, 1) := by decide +kernel
theorem dL_law_570 : decode cL_law 570 = .ok (.iload 4, 2) := by decide +kernel
theorem dL_law_572 : decode cL_law 572 = .ok (.iconst 2, 1) := by decide +kernel
theorem dL_law_573 : decode cL_law 573 = .ok (.iadd, 1) := by decide +kernel
theorem dL_law_574 : decode cL_law 574 = .ok (.iaload, 1) := by decide +kernel
theorem dL_law_575 : decode cL_law 575 = .ok (.invokevirtual 77, 3) := by decide +kernel
theorem dL_law_578 : decode cL_law 578 = .ok (.aload_n 2, 1) := by decide +kernel
theorem dL_law_579 : decode cL_law 579 = .ok (.aload_n 0, 1) := by decide +kernel
theorem dL_law_580 : decode cL_law 580 = .ok (.iload 4, 2) := by decide +kernel
theorem dL_law_582 : decode cL_law 582 = .ok (.iconst 1, 1) := by decide +kernel
theorem dL_law_583 : decode cL_law 583 = .ok (.iadd, 1) := by decide +kernel
theorem dL_law_584 : decode cL_law 584 = .ok (.iaload, 1) := by decide +kernel
theorem dL_law_585 : decode cL_law 585 = .ok (.aload_n 0, 1) := by decide +kernel
theorem dL_law_586 : decode cL_law 586 = .ok (.iload 4, 2) := by decide +kernel
theorem dL_law_588 : decode cL_law 588 = .ok (.iconst 2, 1) := by decide +kernel
theorem dL_law_589 : decode cL_law 589 = .ok (.iadd, 1) := by decide +kernel
theorem dL_law_590 : decode cL_law 590 = .ok (.iaload, 1) := by decide +kernel
theorem dL_law_591 : decode cL_law 591 = .ok (.invokevirtual 80, 3) := by decide +kernel
theorem dL_law_594 : decode cL_law 594 = .ok (.if_icmp .eq 779, 3) := by decide +kernel
theorem dL_law_597 : decode cL_law 597 = .ok (.iconst 0, 1) := by decide +kernel
theorem dL_law_598 : decode cL_law 598 = .ok (.ireturn, 1) := by decide +kernel
theorem dL_law_599 : decode cL_law 599 = .ok (.aload_n 1, 1) := by decide +kernel
theorem dL_law_600 : decode cL_law 600 = .ok (.aload_n 0, 1) := by decide +kernel
theorem dL_law_601 : decode cL_law 601 = .ok (.iload 4, 2) := by decide +kernel
theorem dL_law_603 : decode cL_law 603 = .ok (.iconst 1, 1) := by decide +kernel
theorem dL_law_604 : decode cL_law 604 = .ok (.iadd, 1) := by decide +kernel
theorem dL_law_605 : decode cL_law 605 = .ok (.iaload, 1) := by decide +kernel
theorem dL_law_606 : decode cL_law 606 = .ok (.aload_n 0, 1) := by decide +kernel
theorem dL_law_607 : decode cL_law 607 = .ok (.iload 4, 2) := by decide +kernel
theorem dL_law_609 : decode cL_law 609 = .ok (.iconst 2, 1) := by decide +kernel
theorem dL_law_610 : decode cL_law 610 = .ok (.iadd, 1) := by decide +kernel
theorem dL_law_611 : decode cL_law 611 = .ok (.iaload, 1) := by decide +kernel
theorem dL_law_612 : decode cL_law 612 = .ok (.aload_n 0, 1) := by decide +kernel
theorem dL_law_613 : decode cL_law 613 = .ok (.iload 4, 2) := by decide +kernel
theorem dL_law_615 : decode cL_law 615 = .ok (.iconst 3, 1) := by decide +kernel
theorem dL_law_616 : decode cL_law 616 = .ok (.iadd, 1) := by decide +kernel
theorem dL_law_617 : decode cL_law 617 = .ok (.iaload, 1) := by decide +kernel
theorem dL_law_618 : decode cL_law 618 = .ok (.invokevirtual 81, 3) := by decide +kernel
theorem dL_law_621 : decode cL_law 621 = .ok (.aload_n 2, 1) := by decide +kernel
theorem dL_law_622 : decode cL_law 622 = .ok (.aload_n 0, 1) := by decide +kernel
theorem dL_law_623 : decode cL_law 623 = .ok (.iload 4, 2) := by decide +kernel
theorem dL_law_625 : decode cL_law 625 = .ok (.iconst 1, 1) := by decide +kernel
theorem dL_law_626 : decode cL_law 626 = .ok (.iadd, 1) := by decide +kernel
theorem dL_law_627 : decode cL_law 627 = .ok (.iaload, 1) := by decide +kernel
theorem dL_law_628 : decode cL_law 628 = .ok (.aload_n 0, 1) := by decide +kernel
theorem dL_law_629 : decode cL_law 629 = .ok (.iload 4, 2) := by decide +kernel
theorem dL_law_631 : decode cL_law 631 = .ok (.iconst 2, 1) := by decide +kernel
theorem dL_law_632 : decode cL_law 632 = .ok (.iadd, 1) := by decide +kernel
theorem dL_law_633 : decode cL_law 633 = .ok (.iaload, 1) := by decide +kernel
theorem dL_law_634 : decode cL_law 634 = .ok (.aload_n 0, 1) := by decide +kernel
theorem dL_law_635 : decode cL_law 635 = .ok (.iload 4, 2) := by decide +kernel
theorem dL_law_637 : decode cL_law 637 = .ok (.iconst 3, 1) := by decide +kernel
theorem dL_law_638 : decode cL_law 638 = .ok (.iadd, 1) := by decide +kernel
theorem dL_law_639 : decode cL_law 639 = .ok (.iaload, 1) := by decide +kernel
theorem dL_law_640 : decode cL_law 640 = .ok (.invokevirtual 84, 3) := by decide +kernel
theorem dL_law_643 : decode cL_law 643 = .ok (.if_icmp .eq 730, 3) := by decide +kernel
theorem dL_law_646 : decode cL_law 646 = .ok (.iconst 0, 1) := by decide +kernel
theorem dL_law_647 : decode cL_law 647 = .ok (.ireturn, 1) := by decide +kernel
theorem dL_law_648 : decode cL_law 648 = .ok (.aload_n 1, 1) := by decide +kernel
theorem dL_law_649 : decode cL_law 649 = .ok (.aload_n 0, 1) := by decide +kernel
theorem dL_law_650 : decode cL_law 650 = .ok (.iload 4, 2) := by decide +kernel
theorem dL_law_652 : decode cL_law 652 = .ok (.iconst 1, 1) := by decide +kernel
theorem dL_law_653 : decode cL_law 653 = .ok (.iadd, 1) := by decide +kernel
theorem dL_law_654 : decode cL_law 654 = .ok (.iaload, 1) := by decide +kernel
theorem dL_law_655 : decode cL_law 655 = .ok (.invokevirtual 85, 3) := by decide +kernel
theorem dL_law_658 : decode cL_law 658 = .ok (.aload_n 2, 1) := by decide +kernel
theorem dL_law_659 : decode cL_law 659 = .ok (.aload_n 0, 1) := by decide +kernel
theorem dL_law_660 : decode cL_law 660 = .ok (.iload 4, 2) := by decide +kernel
theorem dL_law_662 : decode cL_law 662 = .ok (.iconst 1, 1) := by decide +kernel
theorem dL_law_663 : decode cL_law 663 = .ok (.iadd, 1) := by decide +kernel
theorem dL_law_664 : decode cL_law 664 = .ok (.iaload, 1) := by decide +kernel
theorem dL_law_665 : decode cL_law 665 = .ok (.invokevirtual 88, 3) := by decide +kernel
theorem dL_law_668 : decode cL_law 668 = .ok (.if_icmp .eq 705, 3) := by decide +kernel
theorem dL_law_671 : decode cL_law 671 = .ok (.iconst 0, 1) := by decide +kernel
theorem dL_law_672 : decode cL_law 672 = .ok (.ireturn, 1) := by decide +kernel
theorem dL_law_673 : decode cL_law 673 = .ok (.aload_n 1, 1) := by decide +kernel
theorem dL_law_674 : decode cL_law 674 = .ok (.invokevirtual 89, 3) := by decide +kernel
theorem dL_law_677 : decode cL_law 677 = .ok (.aload_n 2, 1) := by decide +kernel
theorem dL_law_678 : decode cL_law 678 = .ok (.invokevirtual 92, 3) := by decide +kernel
theorem dL_law_681 : decode cL_law 681 = .ok (.if_icmp .eq 692, 3) := by decide +kernel
theorem dL_law_684 : decode cL_law 684 = .ok (.iconst 0, 1) := by decide +kernel
theorem dL_law_685 : decode cL_law 685 = .ok (.ireturn, 1) := by decide +kernel
theorem dL_law_686 : decode cL_law 686 = .ok (.aload_n 1, 1) := by decide +kernel
theorem dL_law_687 : decode cL_law 687 = .ok (.aload_n 0, 1) := by decide +kernel
theorem dL_law_688 : decode cL_law 688 = .ok (.iload 4, 2) := by decide +kernel
theorem dL_law_690 : decode cL_law 690 = .ok (.iconst 1, 1) := by decide +kernel
theorem dL_law_691 : decode cL_law 691 = .ok (.iadd, 1) := by decide +kernel
theorem dL_law_692 : decode cL_law 692 = .ok (.iaload, 1) := by decide +kernel
theorem dL_law_693 : decode cL_law 693 = .ok (.aload_n 0, 1) := by decide +kernel
theorem dL_law_694 : decode cL_law 694 = .ok (.iload 4, 2) := by decide +kernel
theorem dL_law_696 : decode cL_law 696 = .ok (.iconst 2, 1) := by decide +kernel
theorem dL_law_697 : decode cL_law 697 = .ok (.iadd, 1) := by decide +kernel
theorem dL_law_698 : decode cL_law 698 = .ok (.iaload, 1) := by decide +kernel
theorem dL_law_699 : decode cL_law 699 = .ok (.aload_n 3, 1) := by decide +kernel
theorem dL_law_700 : decode cL_law 700 = .ok (.invokestatic 93, 3) := by decide +kernel
theorem dL_law_703 : decode cL_law 703 = .ok (.istore 5, 2) := by decide +kernel
theorem dL_law_705 : decode cL_law 705 = .ok (.aload_n 2, 1) := by decide +kernel
theorem dL_law_706 : decode cL_law 706 = .ok (.aload_n 0, 1) := by decide +kernel
theorem dL_law_707 : decode cL_law 707 = .ok (.iload 4, 2) := by decide +kernel
theorem dL_law_709 : decode cL_law 709 = .ok (.iconst 1, 1) := by decide +kernel
theorem dL_law_710 : decode cL_law 710 = .ok (.iadd, 1) := by decide +kernel
theorem dL_law_711 : decode cL_law 711 = .ok (.iaload, 1) := by decide +kernel
theorem dL_law_712 : decode cL_law 712 = .ok (.aload_n 0, 1) := by decide +kernel
theorem dL_law_713 : decode cL_law 713 = .ok (.iload 4, 2) := by decide +kernel
theorem dL_law_715 : decode cL_law 715 = .ok (.iconst 2, 1) := by decide +kernel
theorem dL_law_716 : decode cL_law 716 = .ok (.iadd, 1) := by decide +kernel
theorem dL_law_717 : decode cL_law 717 = .ok (.iaload, 1) := by decide +kernel
theorem dL_law_718 : decode cL_law 718 = .ok (.invokevirtual 95, 3) := by decide +kernel
theorem dL_law_721 : decode cL_law 721 = .ok (.istore 6, 2) := by decide +kernel
theorem dL_law_723 : decode cL_law 723 = .ok (.aload_n 2, 1) := by decide +kernel
theorem dL_law_724 : decode cL_law 724 = .ok (.invokevirtual 52, 3) := by decide +kernel
theorem dL_law_727 : decode cL_law 727 = .ok (.iload 5, 2) := by decide +kernel
theorem dL_law_729 : decode cL_law 729 = .ok (.if_icmp .eq 5, 3) := by decide +kernel
theorem dL_law_732 : decode cL_law 732 = .ok (.iconst 0, 1) := by decide +kernel
theorem dL_law_733 : decode cL_law 733 = .ok (.ireturn, 1) := by decide +kernel
theorem dL_law_734 : decode cL_law 734 = .ok (.iload 5, 2) := by decide +kernel
theorem dL_law_736 : decode cL_law 736 = .ok (.ifCond .ne 15, 3) := by decide +kernel
theorem dL_law_739 : decode cL_law 739 = .ok (.aload_n 3, 1) := by decide +kernel
theorem dL_law_740 : decode cL_law 740 = .ok (.iconst 0, 1) := by decide +kernel
theorem dL_law_741 : decode cL_law 741 = .ok (.laload, 1) := by decide +kernel
theorem dL_law_742 : decode cL_law 742 = .ok (.iload 6, 2) := by decide +kernel
theorem dL_law_744 : decode cL_law 744 = .ok (.i2l, 1) := by decide +kernel
theorem dL_law_745 : decode cL_law 745 = .ok (.lcmp, 1) := by decide +kernel
theorem dL_law_746 : decode cL_law 746 = .ok (.ifCond .eq 5, 3) := by decide +kernel
theorem dL_law_749 : decode cL_law 749 = .ok (.iconst 0, 1) := by decide +kernel
theorem dL_law_750 : decode cL_law 750 = .ok (.ireturn, 1) := by decide +kernel
theorem dL_law_751 : decode cL_law 751 = .ok (.goto 622, 3) := by decide +kernel
theorem dL_law_754 : decode cL_law 754 = .ok (.aload_n 1, 1) := by decide +kernel
theorem dL_law_755 : decode cL_law 755 = .ok (.aload_n 0, 1) := by decide +kernel
theorem dL_law_756 : decode cL_law 756 = .ok (.iload 4, 2) := by decide +kernel
theorem dL_law_758 : decode cL_law 758 = .ok (.iconst 1, 1) := by decide +kernel
theorem dL_law_759 : decode cL_law 759 = .ok (.iadd, 1) := by decide +kernel
theorem dL_law_760 : decode cL_law 760 = .ok (.iaload, 1) := by decide +kernel
theorem dL_law_761 : decode cL_law 761 = .ok (.invokevirtual 96, 3) := by decide +kernel
theorem dL_law_764 : decode cL_law 764 = .ok (.aload_n 2, 1) := by decide +kernel
theorem dL_law_765 : decode cL_law 765 = .ok (.aload_n 0, 1) := by decide +kernel
theorem dL_law_766 : decode cL_law 766 = .ok (.iload 4, 2) := by decide +kernel
theorem dL_law_768 : decode cL_law 768 = .ok (.iconst 1, 1) := by decide +kernel
theorem dL_law_769 : decode cL_law 769 = .ok (.iadd, 1) := by decide +kernel
theorem dL_law_770 : decode cL_law 770 = .ok (.iaload, 1) := by decide +kernel
theorem dL_law_771 : decode cL_law 771 = .ok (.invokevirtual 99, 3) := by decide +kernel
theorem dL_law_774 : decode cL_law 774 = .ok (.if_icmp .eq 599, 3) := by decide +kernel
theorem dL_law_777 : decode cL_law 777 = .ok (.iconst 0, 1) := by decide +kernel
theorem dL_law_778 : decode cL_law 778 = .ok (.ireturn, 1) := by decide +kernel
theorem dL_law_779 : decode cL_law 779 = .ok (.aload_n 1, 1) := by decide +kernel
theorem dL_law_780 : decode cL_law 780 = .ok (.aload_n 0, 1) := by decide +kernel
theorem dL_law_781 : decode cL_law 781 = .ok (.iload 4, 2) := by decide +kernel
theorem dL_law_783 : decode cL_law 783 = .ok (.iconst 1, 1) := by decide +kernel
theorem dL_law_784 : decode cL_law 784 = .ok (.iadd, 1) := by decide +kernel
theorem dL_law_785 : decode cL_law 785 = .ok (.iaload, 1) := by decide +kernel
theorem dL_law_786 : decode cL_law 786 = .ok (.invokevirtual 100, 3) := by decide +kernel
theorem dL_law_789 : decode cL_law 789 = .ok (.aload_n 2, 1) := by decide +kernel
theorem dL_law_790 : decode cL_law 790 = .ok (.aload_n 0, 1) := by decide +kernel
theorem dL_law_791 : decode cL_law 791 = .ok (.iload 4, 2) := by decide +kernel
theorem dL_law_793 : decode cL_law 793 = .ok (.iconst 1, 1) := by decide +kernel
theorem dL_law_794 : decode cL_law 794 = .ok (.iadd, 1) := by decide +kernel
theorem dL_law_795 : decode cL_law 795 = .ok (.iaload, 1) := by decide +kernel
theorem dL_law_796 : decode cL_law 796 = .ok (.invokevirtual 103, 3) := by decide +kernel
theorem dL_law_799 : decode cL_law 799 = .ok (.if_icmp .eq 574, 3) := by decide +kernel
theorem dL_law_802 : decode cL_law 802 = .ok (.iconst 0, 1) := by decide +kernel
theorem dL_law_803 : decode cL_law 803 = .ok (.ireturn, 1) := by decide +kernel
theorem dL_law_804 : decode cL_law 804 = .ok (.aload_n 1, 1) := by decide +kernel
theorem dL_law_805 : decode cL_law 805 = .ok (.aload_n 0, 1) := by decide +kernel
theorem dL_law_806 : decode cL_law 806 = .ok (.iload 4, 2) := by decide +kernel
theorem dL_law_808 : decode cL_law 808 = .ok (.iconst 1, 1) := by decide +kernel
theorem dL_law_809 : decode cL_law 809 = .ok (.iadd, 1) := by decide +kernel
theorem dL_law_810 : decode cL_law 810 = .ok (.iaload, 1) := by decide +kernel
theorem dL_law_811 : decode cL_law 811 = .ok (.aload_n 0, 1) := by decide +kernel
theorem dL_law_812 : decode cL_law 812 = .ok (.iload 4, 2) := by decide +kernel
theorem dL_law_814 : decode cL_law 814 = .ok (.iconst 2, 1) := by decide +kernel
theorem dL_law_815 : decode cL_law 815 = .ok (.iadd, 1) := by decide +kernel
theorem dL_law_816 : decode cL_law 816 = .ok (.iaload, 1) := by decide +kernel
theorem dL_law_817 : decode cL_law 817 = .ok (.invokevirtual 104, 3) := by decide +kernel
theorem dL_law_820 : decode cL_law 820 = .ok (.aload_n 2, 1) := by decide +kernel
theorem dL_law_821 : decode cL_law 821 = .ok (.aload_n 0, 1) := by decide +kernel
theorem dL_law_822 : decode cL_law 822 = .ok (.iload 4, 2) := by decide +kernel
theorem dL_law_824 : decode cL_law 824 = .ok (.iconst 1, 1) := by decide +kernel
theorem dL_law_825 : decode cL_law 825 = .ok (.iadd, 1) := by decide +kernel
theorem dL_law_826 : decode cL_law 826 = .ok (.iaload, 1) := by decide +kernel
theorem dL_law_827 : decode cL_law 827 = .ok (.aload_n 0, 1) := by decide +kernel
theorem dL_law_828 : decode cL_law 828 = .ok (.iload 4, 2) := by decide +kernel
theorem dL_law_830 : decode cL_law 830 = .ok (.iconst 2, 1) := by decide +kernel
theorem dL_law_831 : decode cL_law 831 = .ok (.iadd, 1) := by decide +kernel
theorem dL_law_832 : decode cL_law 832 = .ok (.iaload, 1) := by decide +kernel
theorem dL_law_833 : decode cL_law 833 = .ok (.invokevirtual 107, 3) := by decide +kernel
theorem dL_law_836 : decode cL_law 836 = .ok (.if_icmp .eq 537, 3) := by decide +kernel
theorem dL_law_839 : decode cL_law 839 = .ok (.iconst 0, 1) := by decide +kernel
theorem dL_law_840 : decode cL_law 840 = .ok (.ireturn, 1) := by decide +kernel
theorem dL_law_841 : decode cL_law 841 = .ok (.aload_n 1, 1) := by decide +kernel
theorem dL_law_842 : decode cL_law 842 = .ok (.aload_n 0, 1) := by decide +kernel
theorem dL_law_843 : decode cL_law 843 = .ok (.iload 4, 2) := by decide +kernel
theorem dL_law_845 : decode cL_law 845 = .ok (.iconst 1, 1) := by decide +kernel
theorem dL_law_846 : decode cL_law 846 = .ok (.iadd, 1) := by decide +kernel
theorem dL_law_847 : decode cL_law 847 = .ok (.iaload, 1) := by decide +kernel
theorem dL_law_848 : decode cL_law 848 = .ok (.invokevirtual 108, 3) := by decide +kernel
theorem dL_law_851 : decode cL_law 851 = .ok (.aload_n 2, 1) := by decide +kernel
theorem dL_law_852 : decode cL_law 852 = .ok (.aload_n 0, 1) := by decide +kernel
theorem dL_law_853 : decode cL_law 853 = .ok (.iload 4, 2) := by decide +kernel
theorem dL_law_855 : decode cL_law 855 = .ok (.iconst 1, 1) := by decide +kernel
theorem dL_law_856 : decode cL_law 856 = .ok (.iadd, 1) := by decide +kernel
theorem dL_law_857 : decode cL_law 857 = .ok (.iaload, 1) := by decide +kernel
theorem dL_law_858 : decode cL_law 858 = .ok (.invokevirtual 111, 3) := by decide +kernel
theorem dL_law_861 : decode cL_law 861 = .ok (.if_icmp .eq 512, 3) := by decide +kernel
theorem dL_law_864 : decode cL_law 864 = .ok (.iconst 0, 1) := by decide +kernel
theorem dL_law_865 : decode cL_law 865 = .ok (.ireturn, 1) := by decide +kernel
theorem dL_law_866 : decode cL_law 866 = .ok (.aload_n 1, 1) := by decide +kernel
theorem dL_law_867 : decode cL_law 867 = .ok (.aload_n 0, 1) := by decide +kernel
theorem dL_law_868 : decode cL_law 868 = .ok (.iload 4, 2) := by decide +kernel
theorem dL_law_870 : decode cL_law 870 = .ok (.iconst 1, 1) := by decide +kernel
theorem dL_law_871 : decode cL_law 871 = .ok (.iadd, 1) := by decide +kernel
theorem dL_law_872 : decode cL_law 872 = .ok (.iaload, 1) := by decide +kernel
theorem dL_law_873 : decode cL_law 873 = .ok (.invokevirtual 112, 3) := by decide +kernel
theorem dL_law_876 : decode cL_law 876 = .ok (.aload_n 2, 1) := by decide +kernel
theorem dL_law_877 : decode cL_law 877 = .ok (.aload_n 0, 1) := by decide +kernel
theorem dL_law_878 : decode cL_law 878 = .ok (.iload 4, 2) := by decide +kernel
theorem dL_law_880 : decode cL_law 880 = .ok (.iconst 1, 1) := by decide +kernel
theorem dL_law_881 : decode cL_law 881 = .ok (.iadd, 1) := by decide +kernel
theorem dL_law_882 : decode cL_law 882 = .ok (.iaload, 1) := by decide +kernel
theorem dL_law_883 : decode cL_law 883 = .ok (.invokevirtual 115, 3) := by decide +kernel
theorem dL_law_886 : decode cL_law 886 = .ok (.if_icmp .eq 487, 3) := by decide +kernel
theorem dL_law_889 : decode cL_law 889 = .ok (.iconst 0, 1) := by decide +kernel
theorem dL_law_890 : decode cL_law 890 = .ok (.ireturn, 1) := by decide +kernel
theorem dL_law_891 : decode cL_law 891 = .ok (.aload_n 1, 1) := by decide +kernel
theorem dL_law_892 : decode cL_law 892 = .ok (.aload_n 0, 1) := by decide +kernel
theorem dL_law_893 : decode cL_law 893 = .ok (.iload 4, 2) := by decide +kernel
theorem dL_law_895 : decode cL_law 895 = .ok (.iconst 1, 1) := by decide +kernel
theorem dL_law_896 : decode cL_law 896 = .ok (.iadd, 1) := by decide +kernel
theorem dL_law_897 : decode cL_law 897 = .ok (.iaload, 1) := by decide +kernel
theorem dL_law_898 : decode cL_law 898 = .ok (.invokevirtual 116, 3) := by decide +kernel
theorem dL_law_901 : decode cL_law 901 = .ok (.aload_n 2, 1) := by decide +kernel
theorem dL_law_902 : decode cL_law 902 = .ok (.aload_n 0, 1) := by decide +kernel
theorem dL_law_903 : decode cL_law 903 = .ok (.iload 4, 2) := by decide +kernel
theorem dL_law_905 : decode cL_law 905 = .ok (.iconst 1, 1) := by decide +kernel
theorem dL_law_906 : decode cL_law 906 = .ok (.iadd, 1) := by decide +kernel
theorem dL_law_907 : decode cL_law 907 = .ok (.iaload, 1) := by decide +kernel
theorem dL_law_908 : decode cL_law 908 = .ok (.invokevirtual 119, 3) := by decide +kernel
theorem dL_law_911 : decode cL_law 911 = .ok (.if_icmp .eq 462, 3) := by decide +kernel
theorem dL_law_914 : decode cL_law 914 = .ok (.iconst 0, 1) := by decide +kernel
theorem dL_law_915 : decode cL_law 915 = .ok (.ireturn, 1) := by decide +kernel
theorem dL_law_916 : decode cL_law 916 = .ok (.aload_n 1, 1) := by decide +kernel
theorem dL_law_917 : decode cL_law 917 = .ok (.aload_n 0, 1) := by decide +kernel
theorem dL_law_918 : decode cL_law 918 = .ok (.iload 4, 2) := by decide +kernel
theorem dL_law_920 : decode cL_law 920 = .ok (.iconst 1, 1) := by decide +kernel
theorem dL_law_921 : decode cL_law 921 = .ok (.iadd, 1) := by decide +kernel
theorem dL_law_922 : decode cL_law 922 = .ok (.iaload, 1) := by decide +kernel
theorem dL_law_923 : decode cL_law 923 = .ok (.aload_n 0, 1) := by decide +kernel
theorem dL_law_924 : decode cL_law 924 = .ok (.iload 4, 2) := by decide +kernel
theorem dL_law_926 : decode cL_law 926 = .ok (.iconst 2, 1) := by decide +kernel
theorem dL_law_927 : decode cL_law 927 = .ok (.iadd, 1) := by decide +kernel
theorem dL_law_928 : decode cL_law 928 = .ok (.iaload, 1) := by decide +kernel
theorem dL_law_929 : decode cL_law 929 = .ok (.aload_n 0, 1) := by decide +kernel
theorem dL_law_930 : decode cL_law 930 = .ok (.iload 4, 2) := by decide +kernel
theorem dL_law_932 : decode cL_law 932 = .ok (.iconst 3, 1) := by decide +kernel
theorem dL_law_933 : decode cL_law 933 = .ok (.iadd, 1) := by decide +kernel
theorem dL_law_934 : decode cL_law 934 = .ok (.iaload, 1) := by decide +kernel
theorem dL_law_935 : decode cL_law 935 = .ok (.invokevirtual 120, 3) := by decide +kernel
theorem dL_law_938 : decode cL_law 938 = .ok (.aload_n 2, 1) := by decide +kernel
theorem dL_law_939 : decode cL_law 939 = .ok (.aload_n 0, 1) := by decide +kernel
theorem dL_law_940 : decode cL_law 940 = .ok (.iload 4, 2) := by decide +kernel
theorem dL_law_942 : decode cL_law 942 = .ok (.iconst 1, 1) := by decide +kernel
theorem dL_law_943 : decode cL_law 943 = .ok (.iadd, 1) := by decide +kernel
theorem dL_law_944 : decode cL_law 944 = .ok (.iaload, 1) := by decide +kernel
theorem dL_law_945 : decode cL_law 945 = .ok (.aload_n 0, 1) := by decide +kernel
theorem dL_law_946 : decode cL_law 946 = .ok (.iload 4, 2) := by decide +kernel
theorem dL_law_948 : decode cL_law 948 = .ok (.iconst 2, 1) := by decide +kernel
theorem dL_law_949 : decode cL_law 949 = .ok (.iadd, 1) := by decide +kernel
theorem dL_law_950 : decode cL_law 950 = .ok (.iaload, 1) := by decide +kernel
theorem dL_law_951 : decode cL_law 951 = .ok (.aload_n 0, 1) := by decide +kernel
theorem dL_law_952 : decode cL_law 952 = .ok (.iload 4, 2) := by decide +kernel
theorem dL_law_954 : decode cL_law 954 = .ok (.iconst 3, 1) := by decide +kernel
theorem dL_law_955 : decode cL_law 955 = .ok (.iadd, 1) := by decide +kernel
theorem dL_law_956 : decode cL_law 956 = .ok (.iaload, 1) := by decide +kernel
theorem dL_law_957 : decode cL_law 957 = .ok (.invokevirtual 123, 3) := by decide +kernel
theorem dL_law_960 : decode cL_law 960 = .ok (.if_icmp .eq 413, 3) := by decide +kernel
theorem dL_law_963 : decode cL_law 963 = .ok (.iconst 0, 1) := by decide +kernel
theorem dL_law_964 : decode cL_law 964 = .ok (.ireturn, 1) := by decide +kernel
theorem dL_law_965 : decode cL_law 965 = .ok (.aload_n 1, 1) := by decide +kernel
theorem dL_law_966 : decode cL_law 966 = .ok (.aload_n 0, 1) := by decide +kernel
theorem dL_law_967 : decode cL_law 967 = .ok (.iload 4, 2) := by decide +kernel
theorem dL_law_969 : decode cL_law 969 = .ok (.iconst 1, 1) := by decide +kernel
theorem dL_law_970 : decode cL_law 970 = .ok (.iadd, 1) := by decide +kernel
theorem dL_law_971 : decode cL_law 971 = .ok (.iaload, 1) := by decide +kernel
theorem dL_law_972 : decode cL_law 972 = .ok (.aload_n 0, 1) := by decide +kernel
theorem dL_law_973 : decode cL_law 973 = .ok (.iload 4, 2) := by decide +kernel
theorem dL_law_975 : decode cL_law 975 = .ok (.iconst 2, 1) := by decide +kernel
theorem dL_law_976 : decode cL_law 976 = .ok (.iadd, 1) := by decide +kernel
theorem dL_law_977 : decode cL_law 977 = .ok (.iaload, 1) := by decide +kernel
theorem dL_law_978 : decode cL_law 978 = .ok (.aload_n 0, 1) := by decide +kernel
theorem dL_law_979 : decode cL_law 979 = .ok (.iload 4, 2) := by decide +kernel
theorem dL_law_981 : decode cL_law 981 = .ok (.iconst 3, 1) := by decide +kernel
theorem dL_law_982 : decode cL_law 982 = .ok (.iadd, 1) := by decide +kernel
theorem dL_law_983 : decode cL_law 983 = .ok (.iaload, 1) := by decide +kernel
theorem dL_law_984 : decode cL_law 984 = .ok (.aload_n 0, 1) := by decide +kernel
theorem dL_law_985 : decode cL_law 985 = .ok (.iload 4, 2) := by decide +kernel
theorem dL_law_987 : decode cL_law 987 = .ok (.iconst 4, 1) := by decide +kernel
theorem dL_law_988 : decode cL_law 988 = .ok (.iadd, 1) := by decide +kernel
theorem dL_law_989 : decode cL_law 989 = .ok (.iaload, 1) := by decide +kernel
theorem dL_law_990 : decode cL_law 990 = .ok (.aload_n 0, 1) := by decide +kernel
theorem dL_law_991 : decode cL_law 991 = .ok (.iload 4, 2) := by decide +kernel
theorem dL_law_993 : decode cL_law 993 = .ok (.iconst 5, 1) := by decide +kernel
theorem dL_law_994 : decode cL_law 994 = .ok (.iadd, 1) := by decide +kernel
theorem dL_law_995 : decode cL_law 995 = .ok (.iaload, 1) := by decide +kernel
theorem dL_law_996 : decode cL_law 996 = .ok (.invokevirtual 124, 3) := by decide +kernel
theorem dL_law_999 : decode cL_law 999 = .ok (.aload_n 2, 1) := by decide +kernel
theorem dL_law_1000 : decode cL_law 1000 = .ok (.aload_n 0, 1) := by decide +kernel
theorem dL_law_1001 : decode cL_law 1001 = .ok (.iload 4, 2) := by decide +kernel
theorem dL_law_1003 : decode cL_law 1003 = .ok (.iconst 1, 1) := by decide +kernel
theorem dL_law_1004 : decode cL_law 1004 = .ok (.iadd, 1) := by decide +kernel
theorem dL_law_1005 : decode cL_law 1005 = .ok (.iaload, 1) := by decide +kernel
theorem dL_law_1006 : decode cL_law 1006 = .ok (.aload_n 0, 1) := by decide +kernel
theorem dL_law_1007 : decode cL_law 1007 = .ok (.iload 4, 2) := by decide +kernel
theorem dL_law_1009 : decode cL_law 1009 = .ok (.iconst 2, 1) := by decide +kernel
theorem dL_law_1010 : decode cL_law 1010 = .ok (.iadd, 1) := by decide +kernel
theorem dL_law_1011 : decode cL_law 1011 = .ok (.iaload, 1) := by decide +kernel
theorem dL_law_1012 : decode cL_law 1012 = .ok (.aload_n 0, 1) := by decide +kernel
theorem dL_law_1013 : decode cL_law 1013 = .ok (.iload 4, 2) := by decide +kernel
theorem dL_law_1015 : decode cL_law 1015 = .ok (.iconst 3, 1) := by decide +kernel
theorem dL_law_1016 : decode cL_law 1016 = .ok (.iadd, 1) := by decide +kernel
theorem dL_law_1017 : decode cL_law 1017 = .ok (.iaload, 1) := by decide +kernel
theorem dL_law_1018 : decode cL_law 1018 = .ok (.aload_n 0, 1) := by decide +kernel
theorem dL_law_1019 : decode cL_law 1019 = .ok (.iload 4, 2) := by decide +kernel
theorem dL_law_1021 : decode cL_law 1021 = .ok (.iconst 4, 1) := by decide +kernel
theorem dL_law_1022 : decode cL_law 1022 = .ok (.iadd, 1) := by decide +kernel
theorem dL_law_1023 : decode cL_law 1023 = .ok (.iaload, 1) := by decide +kernel
theorem dL_law_1024 : decode cL_law 1024 = .ok (.aload_n 0, 1) := by decide +kernel
theorem dL_law_1025 : decode cL_law 1025 = .ok (.iload 4, 2) := by decide +kernel
theorem dL_law_1027 : decode cL_law 1027 = .ok (.iconst 5, 1) := by decide +kernel
theorem dL_law_1028 : decode cL_law 1028 = .ok (.iadd, 1) := by decide +kernel
theorem dL_law_1029 : decode cL_law 1029 = .ok (.iaload, 1) := by decide +kernel
theorem dL_law_1030 : decode cL_law 1030 = .ok (.invokevirtual 127, 3) := by decide +kernel
theorem dL_law_1033 : decode cL_law 1033 = .ok (.if_icmp .eq 340, 3) := by decide +kernel
theorem dL_law_1036 : decode cL_law 1036 = .ok (.iconst 0, 1) := by decide +kernel
theorem dL_law_1037 : decode cL_law 1037 = .ok (.ireturn, 1) := by decide +kernel
theorem dL_law_1038 : decode cL_law 1038 = .ok (.aload_n 1, 1) := by decide +kernel
theorem dL_law_1039 : decode cL_law 1039 = .ok (.aload_n 0, 1) := by decide +kernel
theorem dL_law_1040 : decode cL_law 1040 = .ok (.iload 4, 2) := by decide +kernel
theorem dL_law_1042 : decode cL_law 1042 = .ok (.iconst 1, 1) := by decide +kernel
theorem dL_law_1043 : decode cL_law 1043 = .ok (.iadd, 1) := by decide +kernel
theorem dL_law_1044 : decode cL_law 1044 = .ok (.iaload, 1) := by decide +kernel
theorem dL_law_1045 : decode cL_law 1045 = .ok (.aload_n 0, 1) := by decide +kernel
theorem dL_law_1046 : decode cL_law 1046 = .ok (.iload 4, 2) := by decide +kernel
theorem dL_law_1048 : decode cL_law 1048 = .ok (.iconst 2, 1) := by decide +kernel
theorem dL_law_1049 : decode cL_law 1049 = .ok (.iadd, 1) := by decide +kernel
theorem dL_law_1050 : decode cL_law 1050 = .ok (.iaload, 1) := by decide +kernel
theorem dL_law_1051 : decode cL_law 1051 = .ok (.invokevirtual 128, 3) := by decide +kernel
theorem dL_law_1054 : decode cL_law 1054 = .ok (.aload_n 2, 1) := by decide +kernel
theorem dL_law_1055 : decode cL_law 1055 = .ok (.aload_n 0, 1) := by decide +kernel
theorem dL_law_1056 : decode cL_law 1056 = .ok (.iload 4, 2) := by decide +kernel
theorem dL_law_1058 : decode cL_law 1058 = .ok (.iconst 1, 1) := by decide +kernel
theorem dL_law_1059 : decode cL_law 1059 = .ok (.iadd, 1) := by decide +kernel
theorem dL_law_1060 : decode cL_law 1060 = .ok (.iaload, 1) := by decide +kernel
theorem dL_law_1061 : decode cL_law 1061 = .ok (.aload_n 0, 1) := by decide +kernel
theorem dL_law_1062 : decode cL_law 1062 = .ok (.iload 4, 2) := by decide +kernel
theorem dL_law_1064 : decode cL_law 1064 = .ok (.iconst 2, 1) := by decide +kernel
theorem dL_law_1065 : decode cL_law 1065 = .ok (.iadd, 1) := by decide +kernel
theorem dL_law_1066 : decode cL_law 1066 = .ok (.iaload, 1) := by decide +kernel
theorem dL_law_1067 : decode cL_law 1067 = .ok (.invokevirtual 131, 3) := by decide +kernel
theorem dL_law_1070 : decode cL_law 1070 = .ok (.if_icmp .eq 303, 3) := by decide +kernel
theorem dL_law_1073 : decode cL_law 1073 = .ok (.iconst 0, 1) := by decide +kernel
theorem dL_law_1074 : decode cL_law 1074 = .ok (.ireturn, 1) := by decide +kernel
theorem dL_law_1075 : decode cL_law 1075 = .ok (.aload_n 1, 1) := by decide +kernel
theorem dL_law_1076 : decode cL_law 1076 = .ok (.aload_n 0, 1) := by decide +kernel
theorem dL_law_1077 : decode cL_law 1077 = .ok (.iload 4, 2) := by decide +kernel
theorem dL_law_1079 : decode cL_law 1079 = .ok (.iconst 1, 1) := by decide +kernel
theorem dL_law_1080 : decode cL_law 1080 = .ok (.iadd, 1) := by decide +kernel
theorem dL_law_1081 : decode cL_law 1081 = .ok (.iaload, 1) := by decide +kernel
theorem dL_law_1082 : decode cL_law 1082 = .ok (.invokevirtual 132, 3) := by decide +kernel
theorem dL_law_1085 : decode cL_law 1085 = .ok (.aload_n 2, 1) := by decide +kernel
theorem dL_law_1086 : decode cL_law 1086 = .ok (.aload_n 0, 1) := by decide +kernel
theorem dL_law_1087 : decode cL_law 1087 = .ok (.iload 4, 2) := by decide +kernel
theorem dL_law_1089 : decode cL_law 1089 = .ok (.iconst 1, 1) := by decide +kernel
theorem dL_law_1090 : decode cL_law 1090 = .ok (.iadd, 1) := by decide +kernel
theorem dL_law_1091 : decode cL_law 1091 = .ok (.iaload, 1) := by decide +kernel
theorem dL_law_1092 : decode cL_law 1092 = .ok (.invokevirtual 135, 3) := by decide +kernel
theorem dL_law_1095 : decode cL_law 1095 = .ok (.if_icmp .eq 278, 3) := by decide +kernel
theorem dL_law_1098 : decode cL_law 1098 = .ok (.iconst 0, 1) := by decide +kernel
theorem dL_law_1099 : decode cL_law 1099 = .ok (.ireturn, 1) := by decide +kernel
theorem dL_law_1100 : decode cL_law 1100 = .ok (.aload_n 1, 1) := by decide +kernel
theorem dL_law_1101 : decode cL_law 1101 = .ok (.invokevirtual 136, 3) := by decide +kernel
theorem dL_law_1104 : decode cL_law 1104 = .ok (.aload_n 2, 1) := by decide +kernel
theorem dL_law_1105 : decode cL_law 1105 = .ok (.invokevirtual 139, 3) := by decide +kernel
theorem dL_law_1108 : decode cL_law 1108 = .ok (.if_icmp .eq 265, 3) := by decide +kernel
theorem dL_law_1111 : decode cL_law 1111 = .ok (.iconst 0, 1) := by decide +kernel
theorem dL_law_1112 : decode cL_law 1112 = .ok (.ireturn, 1) := by decide +kernel
theorem dL_law_1113 : decode cL_law 1113 = .ok (.aload_n 1, 1) := by decide +kernel
theorem dL_law_1114 : decode cL_law 1114 = .ok (.aload_n 0, 1) := by decide +kernel
theorem dL_law_1115 : decode cL_law 1115 = .ok (.iload 4, 2) := by decide +kernel
theorem dL_law_1117 : decode cL_law 1117 = .ok (.iconst 1, 1) := by decide +kernel
theorem dL_law_1118 : decode cL_law 1118 = .ok (.iadd, 1) := by decide +kernel
theorem dL_law_1119 : decode cL_law 1119 = .ok (.iaload, 1) := by decide +kernel
theorem dL_law_1120 : decode cL_law 1120 = .ok (.aload_n 0, 1) := by decide +kernel
theorem dL_law_1121 : decode cL_law 1121 = .ok (.iload 4, 2) := by decide +kernel
theorem dL_law_1123 : decode cL_law 1123 = .ok (.iconst 2, 1) := by decide +kernel
theorem dL_law_1124 : decode cL_law 1124 = .ok (.iadd, 1) := by decide +kernel
theorem dL_law_1125 : decode cL_law 1125 = .ok (.iaload, 1) := by decide +kernel
theorem dL_law_1126 : decode cL_law 1126 = .ok (.invokevirtual 140, 3) := by decide +kernel
theorem dL_law_1129 : decode cL_law 1129 = .ok (.aload_n 2, 1) := by decide +kernel
theorem dL_law_1130 : decode cL_law 1130 = .ok (.aload_n 0, 1) := by decide +kernel
theorem dL_law_1131 : decode cL_law 1131 = .ok (.iload 4, 2) := by decide +kernel
theorem dL_law_1133 : decode cL_law 1133 = .ok (.iconst 1, 1) := by decide +kernel
theorem dL_law_1134 : decode cL_law 1134 = .ok (.iadd, 1) := by decide +kernel
theorem dL_law_1135 : decode cL_law 1135 = .ok (.iaload, 1) := by decide +kernel
theorem dL_law_1136 : decode cL_law 1136 = .ok (.aload_n 0, 1) := by decide +kernel
theorem dL_law_1137 : decode cL_law 1137 = .ok (.iload 4, 2) := by decide +kernel
theorem dL_law_1139 : decode cL_law 1139 = .ok (.iconst 2, 1) := by decide +kernel
theorem dL_law_1140 : decode cL_law 1140 = .ok (.iadd, 1) := by decide +kernel
theorem dL_law_1141 : decode cL_law 1141 = .ok (.iaload, 1) := by decide +kernel
theorem dL_law_1142 : decode cL_law 1142 = .ok (.invokevirtual 143, 3) := by decide +kernel
theorem dL_law_1145 : decode cL_law 1145 = .ok (.if_icmp .eq 228, 3) := by decide +kernel
theorem dL_law_1148 : decode cL_law 1148 = .ok (.iconst 0, 1) := by decide +kernel
theorem dL_law_1149 : decode cL_law 1149 = .ok (.ireturn, 1) := by decide +kernel
theorem dL_law_1150 : decode cL_law 1150 = .ok (.aload_n 1, 1) := by decide +kernel
theorem dL_law_1151 : decode cL_law 1151 = .ok (.invokevirtual 144, 3) := by decide +kernel
theorem dL_law_1154 : decode cL_law 1154 = .ok (.aload_n 2, 1) := by decide +kernel
theorem dL_law_1155 : decode cL_law 1155 = .ok (.invokevirtual 147, 3) := by decide +kernel
theorem dL_law_1158 : decode cL_law 1158 = .ok (.if_icmp .eq 215, 3) := by decide +kernel
theorem dL_law_1161 : decode cL_law 1161 = .ok (.iconst 0, 1) := by decide +kernel
theorem dL_law_1162 : decode cL_law 1162 = .ok (.ireturn, 1) := by decide +kernel
theorem dL_law_1163 : decode cL_law 1163 = .ok (.aload_n 1, 1) := by decide +kernel
theorem dL_law_1164 : decode cL_law 1164 = .ok (.aload_n 0, 1) := by decide +kernel
theorem dL_law_1165 : decode cL_law 1165 = .ok (.iload 4, 2) := by decide +kernel
theorem dL_law_1167 : decode cL_law 1167 = .ok (.iconst 1, 1) := by decide +kernel
theorem dL_law_1168 : decode cL_law 1168 = .ok (.iadd, 1) := by decide +kernel
theorem dL_law_1169 : decode cL_law 1169 = .ok (.iaload, 1) := by decide +kernel
theorem dL_law_1170 : decode cL_law 1170 = .ok (.aload_n 0, 1) := by decide +kernel
theorem dL_law_1171 : decode cL_law 1171 = .ok (.iload 4, 2) := by decide +kernel
theorem dL_law_1173 : decode cL_law 1173 = .ok (.iconst 2, 1) := by decide +kernel
theorem dL_law_1174 : decode cL_law 1174 = .ok (.iadd, 1) := by decide +kernel
theorem dL_law_1175 : decode cL_law 1175 = .ok (.iaload, 1) := by decide +kernel
theorem dL_law_1176 : decode cL_law 1176 = .ok (.aload_n 0, 1) := by decide +kernel
theorem dL_law_1177 : decode cL_law 1177 = .ok (.iload 4, 2) := by decide +kernel
theorem dL_law_1179 : decode cL_law 1179 = .ok (.iconst 3, 1) := by decide +kernel
theorem dL_law_1180 : decode cL_law 1180 = .ok (.iadd, 1) := by decide +kernel
theorem dL_law_1181 : decode cL_law 1181 = .ok (.iaload, 1) := by decide +kernel
theorem dL_law_1182 : decode cL_law 1182 = .ok (.aload_n 0, 1) := by decide +kernel
theorem dL_law_1183 : decode cL_law 1183 = .ok (.iload 4, 2) := by decide +kernel
theorem dL_law_1185 : decode cL_law 1185 = .ok (.iconst 4, 1) := by decide +kernel
theorem dL_law_1186 : decode cL_law 1186 = .ok (.iadd, 1) := by decide +kernel
theorem dL_law_1187 : decode cL_law 1187 = .ok (.iaload, 1) := by decide +kernel
theorem dL_law_1188 : decode cL_law 1188 = .ok (.invokevirtual 148, 3) := by decide +kernel
theorem dL_law_1191 : decode cL_law 1191 = .ok (.aload_n 2, 1) := by decide +kernel
theorem dL_law_1192 : decode cL_law 1192 = .ok (.aload_n 0, 1) := by decide +kernel
theorem dL_law_1193 : decode cL_law 1193 = .ok (.iload 4, 2) := by decide +kernel
theorem dL_law_1195 : decode cL_law 1195 = .ok (.iconst 1, 1) := by decide +kernel
theorem dL_law_1196 : decode cL_law 1196 = .ok (.iadd, 1) := by decide +kernel
theorem dL_law_1197 : decode cL_law 1197 = .ok (.iaload, 1) := by decide +kernel
theorem dL_law_1198 : decode cL_law 1198 = .ok (.aload_n 0, 1) := by decide +kernel
theorem dL_law_1199 : decode cL_law 1199 = .ok (.iload 4, 2) := by decide +kernel
theorem dL_law_1201 : decode cL_law 1201 = .ok (.iconst 2, 1) := by decide +kernel
theorem dL_law_1202 : decode cL_law 1202 = .ok (.iadd, 1) := by decide +kernel
theorem dL_law_1203 : decode cL_law 1203 = .ok (.iaload, 1) := by decide +kernel
theorem dL_law_1204 : decode cL_law 1204 = .ok (.aload_n 0, 1) := by decide +kernel
theorem dL_law_1205 : decode cL_law 1205 = .ok (.iload 4, 2) := by decide +kernel
theorem dL_law_1207 : decode cL_law 1207 = .ok (.iconst 3, 1) := by decide +kernel
theorem dL_law_1208 : decode cL_law 1208 = .ok (.iadd, 1) := by decide +kernel
theorem dL_law_1209 : decode cL_law 1209 = .ok (.iaload, 1) := by decide +kernel
theorem dL_law_1210 : decode cL_law 1210 = .ok (.aload_n 0, 1) := by decide +kernel
theorem dL_law_1211 : decode cL_law 1211 = .ok (.iload 4, 2) := by decide +kernel
theorem dL_law_1213 : decode cL_law 1213 = .ok (.iconst 4, 1) := by decide +kernel
theorem dL_law_1214 : decode cL_law 1214 = .ok (.iadd, 1) := by decide +kernel
theorem dL_law_1215 : decode cL_law 1215 = .ok (.iaload, 1) := by decide +kernel
theorem dL_law_1216 : decode cL_law 1216 = .ok (.invokevirtual 152, 3) := by decide +kernel
theorem dL_law_1219 : decode cL_law 1219 = .ok (.if_icmp .eq 154, 3) := by decide +kernel
theorem dL_law_1222 : decode cL_law 1222 = .ok (.iconst 0, 1) := by decide +kernel
theorem dL_law_1223 : decode cL_law 1223 = .ok (.ireturn, 1) := by decide +kernel
theorem dL_law_1224 : decode cL_law 1224 = .ok (.aload_n 1, 1) := by decide +kernel
theorem dL_law_1225 : decode cL_law 1225 = .ok (.aload_n 0, 1) := by decide +kernel
theorem dL_law_1226 : decode cL_law 1226 = .ok (.iload 4, 2) := by decide +kernel
theorem dL_law_1228 : decode cL_law 1228 = .ok (.iconst 1, 1) := by decide +kernel
theorem dL_law_1229 : decode cL_law 1229 = .ok (.iadd, 1) := by decide +kernel
theorem dL_law_1230 : decode cL_law 1230 = .ok (.iaload, 1) := by decide +kernel
theorem dL_law_1231 : decode cL_law 1231 = .ok (.invokevirtual 153, 3) := by decide +kernel
theorem dL_law_1234 : decode cL_law 1234 = .ok (.aload_n 2, 1) := by decide +kernel
theorem dL_law_1235 : decode cL_law 1235 = .ok (.aload_n 0, 1) := by decide +kernel
theorem dL_law_1236 : decode cL_law 1236 = .ok (.iload 4, 2) := by decide +kernel
theorem dL_law_1238 : decode cL_law 1238 = .ok (.iconst 1, 1) := by decide +kernel
theorem dL_law_1239 : decode cL_law 1239 = .ok (.iadd, 1) := by decide +kernel
theorem dL_law_1240 : decode cL_law 1240 = .ok (.iaload, 1) := by decide +kernel
theorem dL_law_1241 : decode cL_law 1241 = .ok (.invokevirtual 156, 3) := by decide +kernel
theorem dL_law_1244 : decode cL_law 1244 = .ok (.if_icmp .eq 129, 3) := by decide +kernel
theorem dL_law_1247 : decode cL_law 1247 = .ok (.iconst 0, 1) := by decide +kernel
theorem dL_law_1248 : decode cL_law 1248 = .ok (.ireturn, 1) := by decide +kernel
theorem dL_law_1249 : decode cL_law 1249 = .ok (.aload_n 1, 1) := by decide +kernel
theorem dL_law_1250 : decode cL_law 1250 = .ok (.aload_n 0, 1) := by decide +kernel
theorem dL_law_1251 : decode cL_law 1251 = .ok (.iload 4, 2) := by decide +kernel
theorem dL_law_1253 : decode cL_law 1253 = .ok (.iconst 1, 1) := by decide +kernel
theorem dL_law_1254 : decode cL_law 1254 = .ok (.iadd, 1) := by decide +kernel
theorem dL_law_1255 : decode cL_law 1255 = .ok (.iaload, 1) := by decide +kernel
theorem dL_law_1256 : decode cL_law 1256 = .ok (.aload_n 0, 1) := by decide +kernel
theorem dL_law_1257 : decode cL_law 1257 = .ok (.iload 4, 2) := by decide +kernel
theorem dL_law_1259 : decode cL_law 1259 = .ok (.iconst 2, 1) := by decide +kernel
theorem dL_law_1260 : decode cL_law 1260 = .ok (.iadd, 1) := by decide +kernel
theorem dL_law_1261 : decode cL_law 1261 = .ok (.iaload, 1) := by decide +kernel
theorem dL_law_1262 : decode cL_law 1262 = .ok (.aload_n 0, 1) := by decide +kernel
theorem dL_law_1263 : decode cL_law 1263 = .ok (.iload 4, 2) := by decide +kernel
theorem dL_law_1265 : decode cL_law 1265 = .ok (.iconst 3, 1) := by decide +kernel
theorem dL_law_1266 : decode cL_law 1266 = .ok (.iadd, 1) := by decide +kernel
theorem dL_law_1267 : decode cL_law 1267 = .ok (.iaload, 1) := by decide +kernel
theorem dL_law_1268 : decode cL_law 1268 = .ok (.invokevirtual 157, 3) := by decide +kernel
theorem dL_law_1271 : decode cL_law 1271 = .ok (.aload_n 2, 1) := by decide +kernel
theorem dL_law_1272 : decode cL_law 1272 = .ok (.aload_n 0, 1) := by decide +kernel
theorem dL_law_1273 : decode cL_law 1273 = .ok (.iload 4, 2) := by decide +kernel
theorem dL_law_1275 : decode cL_law 1275 = .ok (.iconst 1, 1) := by decide +kernel
theorem dL_law_1276 : decode cL_law 1276 = .ok (.iadd, 1) := by decide +kernel
theorem dL_law_1277 : decode cL_law 1277 = .ok (.iaload, 1) := by decide +kernel
theorem dL_law_1278 : decode cL_law 1278 = .ok (.aload_n 0, 1) := by decide +kernel
theorem dL_law_1279 : decode cL_law 1279 = .ok (.iload 4, 2) := by decide +kernel
theorem dL_law_1281 : decode cL_law 1281 = .ok (.iconst 2, 1) := by decide +kernel
theorem dL_law_1282 : decode cL_law 1282 = .ok (.iadd, 1) := by decide +kernel
theorem dL_law_1283 : decode cL_law 1283 = .ok (.iaload, 1) := by decide +kernel
theorem dL_law_1284 : decode cL_law 1284 = .ok (.aload_n 0, 1) := by decide +kernel
theorem dL_law_1285 : decode cL_law 1285 = .ok (.iload 4, 2) := by decide +kernel
theorem dL_law_1287 : decode cL_law 1287 = .ok (.iconst 3, 1) := by decide +kernel
theorem dL_law_1288 : decode cL_law 1288 = .ok (.iadd, 1) := by decide +kernel
theorem dL_law_1289 : decode cL_law 1289 = .ok (.iaload, 1) := by decide +kernel
theorem dL_law_1290 : decode cL_law 1290 = .ok (.invokevirtual 160, 3) := by decide +kernel
theorem dL_law_1293 : decode cL_law 1293 = .ok (.if_icmp .eq 80, 3) := by decide +kernel
theorem dL_law_1296 : decode cL_law 1296 = .ok (.iconst 0, 1) := by decide +kernel
theorem dL_law_1297 : decode cL_law 1297 = .ok (.ireturn, 1) := by decide +kernel
theorem dL_law_1298 : decode cL_law 1298 = .ok (.aload_n 1, 1) := by decide +kernel
theorem dL_law_1299 : decode cL_law 1299 = .ok (.aload_n 0, 1) := by decide +kernel
theorem dL_law_1300 : decode cL_law 1300 = .ok (.iload 4, 2) := by decide +kernel
theorem dL_law_1302 : decode cL_law 1302 = .ok (.iconst 1, 1) := by decide +kernel
theorem dL_law_1303 : decode cL_law 1303 = .ok (.iadd, 1) := by decide +kernel
theorem dL_law_1304 : decode cL_law 1304 = .ok (.iaload, 1) := by decide +kernel
theorem dL_law_1305 : decode cL_law 1305 = .ok (.invokevirtual 161, 3) := by decide +kernel
theorem dL_law_1308 : decode cL_law 1308 = .ok (.aload_n 2, 1) := by decide +kernel
theorem dL_law_1309 : decode cL_law 1309 = .ok (.aload_n 0, 1) := by decide +kernel
theorem dL_law_1310 : decode cL_law 1310 = .ok (.iload 4, 2) := by decide +kernel
theorem dL_law_1312 : decode cL_law 1312 = .ok (.iconst 1, 1) := by decide +kernel
theorem dL_law_1313 : decode cL_law 1313 = .ok (.iadd, 1) := by decide +kernel
theorem dL_law_1314 : decode cL_law 1314 = .ok (.iaload, 1) := by decide +kernel
theorem dL_law_1315 : decode cL_law 1315 = .ok (.invokevirtual 164, 3) := by decide +kernel
theorem dL_law_1318 : decode cL_law 1318 = .ok (.if_icmp .eq 55, 3) := by decide +kernel
theorem dL_law_1321 : decode cL_law 1321 = .ok (.iconst 0, 1) := by decide +kernel
theorem dL_law_1322 : decode cL_law 1322 = .ok (.ireturn, 1) := by decide +kernel
theorem dL_law_1323 : decode cL_law 1323 = .ok (.aload_n 1, 1) := by decide +kernel
theorem dL_law_1324 : decode cL_law 1324 = .ok (.aload_n 0, 1) := by decide +kernel
theorem dL_law_1325 : decode cL_law 1325 = .ok (.iload 4, 2) := by decide +kernel
theorem dL_law_1327 : decode cL_law 1327 = .ok (.iconst 1, 1) := by decide +kernel
theorem dL_law_1328 : decode cL_law 1328 = .ok (.iadd, 1) := by decide +kernel
theorem dL_law_1329 : decode cL_law 1329 = .ok (.iaload, 1) := by decide +kernel
theorem dL_law_1330 : decode cL_law 1330 = .ok (.invokevirtual 165, 3) := by decide +kernel
theorem dL_law_1333 : decode cL_law 1333 = .ok (.aload_n 2, 1) := by decide +kernel
theorem dL_law_1334 : decode cL_law 1334 = .ok (.aload_n 0, 1) := by decide +kernel
theorem dL_law_1335 : decode cL_law 1335 = .ok (.iload 4, 2) := by decide +kernel
theorem dL_law_1337 : decode cL_law 1337 = .ok (.iconst 1, 1) := by decide +kernel
theorem dL_law_1338 : decode cL_law 1338 = .ok (.iadd, 1) := by decide +kernel
theorem dL_law_1339 : decode cL_law 1339 = .ok (.iaload, 1) := by decide +kernel
theorem dL_law_1340 : decode cL_law 1340 = .ok (.invokevirtual 168, 3) := by decide +kernel
theorem dL_law_1343 : decode cL_law 1343 = .ok (.if_icmp .eq 30, 3) := by decide +kernel
theorem dL_law_1346 : decode cL_law 1346 = .ok (.iconst 0, 1) := by decide +kernel
theorem dL_law_1347 : decode cL_law 1347 = .ok (.ireturn, 1) := by decide +kernel
theorem dL_law_1348 : decode cL_law 1348 = .ok (.aload_n 1, 1) := by decide +kernel
theorem dL_law_1349 : decode cL_law 1349 = .ok (.aload_n 0, 1) := by decide +kernel
theorem dL_law_1350 : decode cL_law 1350 = .ok (.iload 4, 2) := by decide +kernel
theorem dL_law_1352 : decode cL_law 1352 = .ok (.iconst 1, 1) := by decide +kernel
theorem dL_law_1353 : decode cL_law 1353 = .ok (.iadd, 1) := by decide +kernel
theorem dL_law_1354 : decode cL_law 1354 = .ok (.iaload, 1) := by decide +kernel
theorem dL_law_1355 : decode cL_law 1355 = .ok (.invokevirtual 169, 3) := by decide +kernel
theorem dL_law_1358 : decode cL_law 1358 = .ok (.aload_n 2, 1) := by decide +kernel
theorem dL_law_1359 : decode cL_law 1359 = .ok (.aload_n 0, 1) := by decide +kernel
theorem dL_law_1360 : decode cL_law 1360 = .ok (.iload 4, 2) := by decide +kernel
theorem dL_law_1362 : decode cL_law 1362 = .ok (.iconst 1, 1) := by decide +kernel
theorem dL_law_1363 : decode cL_law 1363 = .ok (.iadd, 1) := by decide +kernel
theorem dL_law_1364 : decode cL_law 1364 = .ok (.iaload, 1) := by decide +kernel
theorem dL_law_1365 : decode cL_law 1365 = .ok (.invokevirtual 172, 3) := by decide +kernel
theorem dL_law_1368 : decode cL_law 1368 = .ok (.if_icmp .eq 5, 3) := by decide +kernel
theorem dL_law_1371 : decode cL_law 1371 = .ok (.iconst 0, 1) := by decide +kernel
theorem dL_law_1372 : decode cL_law 1372 = .ok (.ireturn, 1) := by decide +kernel
theorem dL_law_1373 : decode cL_law 1373 = .ok (.iinc 4 6, 3) := by decide +kernel
theorem dL_law_1376 : decode cL_law 1376 = .ok (.goto (-1353), 3) := by decide +kernel
theorem dL_law_1379 : decode cL_law 1379 = .ok (.iconst 1, 1) := by decide +kernel
theorem dL_law_1380 : decode cL_law 1380 = .ok (.ireturn, 1) := by decide +kernel
def wb_L_law_1373 (K23 : AH → Nat → Nat → Nat → Int32 → Prop) (h : AH) (al1 : Nat) (al2 : Nat) (al3 : Nat) (xl4 : Int32)  (xs : Nat → Int32) (L : Nat) : Prop := ∀ iv1 : Int32, iv1 = xl4 + 6 → (K23 h al1 al2 al3 iv1)
set_option maxRecDepth 100000 in
theorem tb_L_law_1373 {G : GG} {p : Program} {l : Launch} {e : Env} {s : State} {m : MethodId} {below : List Frame} {meth : Method} {c : Code} {xs : Nat → Int32} {L bb : Nat} (C : Cx G p room_1 s m #[Value.ref bb] meth c 7 cL_law RL 0 0 10 362) (hr : meth.sig.returnType = some .boolean) (hlt : l.stackTraces = false) (hS : SX G s) (hE : XE G s) (hX : va_X bb L xs s G.2.1) (hbl : bb < G.1) {K23 : AH → Nat → Nat → Nat → Int32 → Prop} (hK23 : ∀ (h : AH) (al1 : Nat) (al2 : Nat) (al3 : Nat) (xl4 : Int32), K23 h al1 al2 al3 xl4 → AW G p l e room_1 s m #[Value.ref bb] below meth c 7 (lw_Z below #[Value.ref bb] s) 23 [(0, .ref bb), (1, .ref (G.1 + al1)), (2, .ref (G.1 + al2)), (3, .ref (G.1 + al3)), (4, .int xl4)] [] h) {h : AH} {al1 : Nat} {al2 : Nat} {al3 : Nat} {xl4 : Int32}  (hw : wb_L_law_1373 K23 h al1 al2 al3 xl4 xs L) : AW G p l e room_1 s m #[Value.ref bb] below meth c 7 (lw_Z below #[Value.ref bb] s) 1373 [(0, .ref bb), (1, .ref (G.1 + al1)), (2, .ref (G.1 + al2)), (3, .ref (G.1 + al3)), (4, .int xl4)] [] h := by
  unfold wb_L_law_1373 at hw
  obtain ⟨iv1, eiv1⟩ : ∃ q : Int32, q = xl4 + 6 := ⟨_, rfl⟩
  replace hw := hw iv1 eiv1
  refine r_iinc C dL_law_1373 4 rfl (by rw [eiv1]; rfl) [(4, .int iv1), (0, .ref bb), (1, .ref (G.1 + al1)), (2, .ref (G.1 + al2)), (3, .ref (G.1 + al3))] (by decide) rfl ?_
  refine r_goto C dL_law_1376 23 (by decide) ?_
  refine r_sub [1, 2, 3, 4, 0] rfl ?_
  exact hK23 _ _ _ _ _ hw
def wb_L_law_751 (K23 : AH → Nat → Nat → Nat → Int32 → Prop) (h : AH) (al1 : Nat) (al2 : Nat) (al3 : Nat) (xl4 : Int32)  (xs : Nat → Int32) (L : Nat) : Prop := wb_L_law_1373 K23 h al1 al2 al3 xl4 xs L
set_option maxRecDepth 100000 in
theorem tb_L_law_751 {G : GG} {p : Program} {l : Launch} {e : Env} {s : State} {m : MethodId} {below : List Frame} {meth : Method} {c : Code} {xs : Nat → Int32} {L bb : Nat} (C : Cx G p room_1 s m #[Value.ref bb] meth c 7 cL_law RL 0 0 10 362) (hr : meth.sig.returnType = some .boolean) (hlt : l.stackTraces = false) (hS : SX G s) (hE : XE G s) (hX : va_X bb L xs s G.2.1) (hbl : bb < G.1) {K23 : AH → Nat → Nat → Nat → Int32 → Prop} (hK23 : ∀ (h : AH) (al1 : Nat) (al2 : Nat) (al3 : Nat) (xl4 : Int32), K23 h al1 al2 al3 xl4 → AW G p l e room_1 s m #[Value.ref bb] below meth c 7 (lw_Z below #[Value.ref bb] s) 23 [(0, .ref bb), (1, .ref (G.1 + al1)), (2, .ref (G.1 + al2)), (3, .ref (G.1 + al3)), (4, .int xl4)] [] h) {h : AH} {al1 : Nat} {al2 : Nat} {al3 : Nat} {xl4 : Int32}  (hw : wb_L_law_751 K23 h al1 al2 al3 xl4 xs L) : AW G p l e room_1 s m #[Value.ref bb] below meth c 7 (lw_Z below #[Value.ref bb] s) 751 [(0, .ref bb), (1, .ref (G.1 + al1)), (2, .ref (G.1 + al2)), (3, .ref (G.1 + al3)), (4, .int xl4)] [] h := by
  unfold wb_L_law_751 at hw
  refine r_goto C dL_law_751 1373 (by decide) ?_
  refine r_sub [0, 1, 2, 3, 4] rfl ?_
  exact tb_L_law_1373 C hr hlt hS hE hX hbl hK23 hw
def wb_L_law_434 (K23 : AH → Nat → Nat → Nat → Int32 → Prop) (h : AH) (al1 : Nat) (al2 : Nat) (al3 : Nat) (xl4 : Int32)  (xs : Nat → Int32) (L : Nat) : Prop := wb_L_law_1373 K23 h al1 al2 al3 xl4 xs L
set_option maxRecDepth 100000 in
theorem tb_L_law_434 {G : GG} {p : Program} {l : Launch} {e : Env} {s : State} {m : MethodId} {below : List Frame} {meth : Method} {c : Code} {xs : Nat → Int32} {L bb : Nat} (C : Cx G p room_1 s m #[Value.ref bb] meth c 7 cL_law RL 0 0 10 362) (hr : meth.sig.returnType = some .boolean) (hlt : l.stackTraces = false) (hS : SX G s) (hE : XE G s) (hX : va_X bb L xs s G.2.1) (hbl : bb < G.1) {K23 : AH → Nat → Nat → Nat → Int32 → Prop} (hK23 : ∀ (h : AH) (al1 : Nat) (al2 : Nat) (al3 : Nat) (xl4 : Int32), K23 h al1 al2 al3 xl4 → AW G p l e room_1 s m #[Value.ref bb] below meth c 7 (lw_Z below #[Value.ref bb] s) 23 [(0, .ref bb), (1, .ref (G.1 + al1)), (2, .ref (G.1 + al2)), (3, .ref (G.1 + al3)), (4, .int xl4)] [] h) {h : AH} {al1 : Nat} {al2 : Nat} {al3 : Nat} {xl4 : Int32}  (hw : wb_L_law_434 K23 h al1 al2 al3 xl4 xs L) : AW G p l e room_1 s m #[Value.ref bb] below meth c 7 (lw_Z below #[Value.ref bb] s) 434 [(0, .ref bb), (1, .ref (G.1 + al1)), (2, .ref (G.1 + al2)), (3, .ref (G.1 + al3)), (4, .int xl4)] [] h := by
  unfold wb_L_law_434 at hw
  refine r_goto C dL_law_434 1373 (by decide) ?_
  refine r_sub [0, 1, 2, 3, 4] rfl ?_
  exact tb_L_law_1373 C hr hlt hS hE hX hbl hK23 hw
set_option maxRecDepth 100000 in
def wb_L_law_23 (K23 : AH → Nat → Nat → Nat → Int32 → Prop) (h : AH) (al1 : Nat) (al2 : Nat) (al3 : Nat) (xl4 : Int32)  (xs : Nat → Int32) (L : Nat) : Prop := (((nI L) - (6 : Int32)) < xl4 → ((1 : Int32) = 1)) ∧ (¬ ((nI L) - (6 : Int32)) < xl4 → ((vp_in xl4 L) ∧ ((((xs xl4.toNatClampNeg) &&& (63 : Int32)) = 0 → ((vp_in (xl4 + (1 : Int32)) L) ∧ ((vp_in (xl4 + (2 : Int32)) L) ∧ ((vp_in (xl4 + (3 : Int32)) L) ∧ ((vp_in (xl4 + (4 : Int32)) L) ∧ ((vp_in (xl4 + (5 : Int32)) L) ∧ ((ob h al1 10) ∧ wp_X11_feed h al1 (xs (xl4 + (1 : Int32)).toNatClampNeg) (xs (xl4 + (2 : Int32)).toNatClampNeg) (xs (xl4 + (3 : Int32)).toNatClampNeg) (xs (xl4 + (4 : Int32)).toNatClampNeg) (xs (xl4 + (5 : Int32)).toNatClampNeg) (fun hv1 iv2 => (vp_in (xl4 + (1 : Int32)) L) ∧ ((vp_in (xl4 + (2 : Int32)) L) ∧ ((vp_in (xl4 + (3 : Int32)) L) ∧ ((vp_in (xl4 + (4 : Int32)) L) ∧ ((vp_in (xl4 + (5 : Int32)) L) ∧ ((ob hv1 al2 11) ∧ wp_X12_feed hv1 al2 (xs (xl4 + (1 : Int32)).toNatClampNeg) (xs (xl4 + (2 : Int32)).toNatClampNeg) (xs (xl4 + (3 : Int32)).toNatClampNeg) (xs (xl4 + (4 : Int32)).toNatClampNeg) (xs (xl4 + (5 : Int32)).toNatClampNeg) (fun hv3 iv4 => (iv2 = iv4 → (wb_L_law_1373 K23 hv3 al1 al2 al3 xl4 xs L)) ∧ (¬ iv2 = iv4 → ((0 : Int32) = 1)))))))))))))))) ∧ (((xs xl4.toNatClampNeg) &&& (63 : Int32)) = 1 → ((vp_in (xl4 + (1 : Int32)) L) ∧ ((ob h al1 10) ∧ wp_X11_end h al1 (xs (xl4 + (1 : Int32)).toNatClampNeg) (fun hv5 iv6 => (vp_in (xl4 + (1 : Int32)) L) ∧ ((ob hv5 al2 11) ∧ wp_X12_end hv5 al2 (xs (xl4 + (1 : Int32)).toNatClampNeg) (fun hv7 iv8 => (iv6 = iv8 → (wb_L_law_1373 K23 hv7 al1 al2 al3 xl4 xs L)) ∧ (¬ iv6 = iv8 → ((0 : Int32) = 1)))))))) ∧ (((xs xl4.toNatClampNeg) &&& (63 : Int32)) = 2 → ((ob h al1 10) ∧ wp_X11_lagoon h al1  (fun hv9 iv10 => (ob hv9 al2 11) ∧ wp_X12_lagoon hv9 al2  (fun hv11 iv12 => (iv10 = iv12 → (wb_L_law_1373 K23 hv11 al1 al2 al3 xl4 xs L)) ∧ (¬ iv10 = iv12 → ((0 : Int32) = 1)))))) ∧ (((xs xl4.toNatClampNeg) &&& (63 : Int32)) = 3 → ((ob h al1 10) ∧ wp_X11_fault h al1  (fun hv13 iv14 => (ob hv13 al2 11) ∧ wp_X12_fault hv13 al2  (fun hv15 iv16 => (iv14 = iv16 → (wb_L_law_1373 K23 hv15 al1 al2 al3 xl4 xs L)) ∧ (¬ iv14 = iv16 → ((0 : Int32) = 1)))))) ∧ (((xs xl4.toNatClampNeg) &&& (63 : Int32)) = 4 → ((vp_in (xl4 + (1 : Int32)) L) ∧ ((vp_in (xl4 + (2 : Int32)) L) ∧ ((vp_in (xl4 + (3 : Int32)) L) ∧ ((ob h al1 10) ∧ wp_X11_water h al1 (xs (xl4 + (1 : Int32)).toNatClampNeg) (xs (xl4 + (2 : Int32)).toNatClampNeg) (xs (xl4 + (3 : Int32)).toNatClampNeg) (fun hv17 iv18 => (vp_in (xl4 + (1 : Int32)) L) ∧ ((vp_in (xl4 + (2 : Int32)) L) ∧ ((vp_in (xl4 + (3 : Int32)) L) ∧ ((ob hv17 al2 11) ∧ wp_X12_water hv17 al2 (xs (xl4 + (1 : Int32)).toNatClampNeg) (xs (xl4 + (2 : Int32)).toNatClampNeg) (xs (xl4 + (3 : Int32)).toNatClampNeg) (fun hv19 iv20 => (iv18 = iv20 → (wb_L_law_1373 K23 hv19 al1 al2 al3 xl4 xs L)) ∧ (¬ iv18 = iv20 → ((0 : Int32) = 1)))))))))))) ∧ (((xs xl4.toNatClampNeg) &&& (63 : Int32)) = 5 → ((vp_in (xl4 + (1 : Int32)) L) ∧ ((vp_in (xl4 + (2 : Int32)) L) ∧ (wp_L_raft h al1 (xs (xl4 + (1 : Int32)).toNatClampNeg) (xs (xl4 + (2 : Int32)).toNatClampNeg) al3 (fun hv21 iv22 => (vp_in (xl4 + (1 : Int32)) L) ∧ ((vp_in (xl4 + (2 : Int32)) L) ∧ ((ob hv21 al2 11) ∧ wp_X12_raft hv21 al2 (xs (xl4 + (1 : Int32)).toNatClampNeg) (xs (xl4 + (2 : Int32)).toNatClampNeg) (fun hv23 iv24 => (ob hv23 al2 11) ∧ wp_X12_thrown hv23 al2  (fun hv25 iv26 => (iv26 = iv22 → ((¬ iv22 = 0 → (wb_L_law_434 K23 hv25 al1 al2 al3 xl4 xs L)) ∧ (iv22 = 0 → ((ob hv25 al3 14) ∧ ((vp_in 0 (aL hv25 al3)) ∧ (((lg_cmp (aJ hv25 al3 (0 : Int32).toNatClampNeg) iv24.toInt64) = 0 → (wb_L_law_434 K23 hv25 al1 al2 al3 xl4 xs L)) ∧ (¬ (lg_cmp (aJ hv25 al3 (0 : Int32).toNatClampNeg) iv24.toInt64) = 0 → ((0 : Int32) = 1)))))))) ∧ (¬ iv26 = iv22 → ((0 : Int32) = 1))))))))))) ∧ (((xs xl4.toNatClampNeg) &&& (63 : Int32)) = 6 → ((vp_in (xl4 + (1 : Int32)) L) ∧ ((vp_in (xl4 + (2 : Int32)) L) ∧ ((ob h al1 10) ∧ wp_X11_at h al1 (xs (xl4 + (1 : Int32)).toNatClampNeg) (xs (xl4 + (2 : Int32)).toNatClampNeg) (fun hv27 iv28 => (vp_in (xl4 + (1 : Int32)) L) ∧ ((vp_in (xl4 + (2 : Int32)) L) ∧ ((ob hv27 al2 11) ∧ wp_X12_at hv27 al2 (xs (xl4 + (1 : Int32)).toNatClampNeg) (xs (xl4 + (2 : Int32)).toNatClampNeg) (fun hv29 iv30 => (iv28 = iv30 → (wb_L_law_1373 K23 hv29 al1 al2 al3 xl4 xs L)) ∧ (¬ iv28 = iv30 → ((0 : Int32) = 1)))))))))) ∧ (((xs xl4.toNatClampNeg) &&& (63 : Int32)) = 7 → ((ob h al1 10) ∧ wp_X11_lay h al1  (fun hv31 iv32 => (ob hv31 al2 11) ∧ wp_X12_lay hv31 al2  (fun hv33 iv34 => (iv32 = iv34 → (wb_L_law_1373 K23 hv33 al1 al2 al3 xl4 xs L)) ∧ (¬ iv32 = iv34 → ((0 : Int32) = 1)))))) ∧ (((xs xl4.toNatClampNeg) &&& (63 : Int32)) = 8 → ((vp_in (xl4 + (1 : Int32)) L) ∧ ((ob h al1 10) ∧ wp_X11_aground h al1 (xs (xl4 + (1 : Int32)).toNatClampNeg) (fun hv35 iv36 => (vp_in (xl4 + (1 : Int32)) L) ∧ ((ob hv35 al2 11) ∧ wp_X12_aground hv35 al2 (xs (xl4 + (1 : Int32)).toNatClampNeg) (fun hv37 iv38 => (iv36 = iv38 → (wb_L_law_1373 K23 hv37 al1 al2 al3 xl4 xs L)) ∧ (¬ iv36 = iv38 → ((0 : Int32) = 1)))))))) ∧ (((xs xl4.toNatClampNeg) &&& (63 : Int32)) = 9 → ((vp_in (xl4 + (1 : Int32)) L) ∧ ((ob h al1 10) ∧ wp_X11_breaks h al1 (xs (xl4 + (1 : Int32)).toNatClampNeg) (fun hv39 iv40 => (vp_in (xl4 + (1 : Int32)) L) ∧ ((ob hv39 al2 11) ∧ wp_X12_breaks hv39 al2 (xs (xl4 + (1 : Int32)).toNatClampNeg) (fun hv41 iv42 => (iv40 = iv42 → (wb_L_law_1373 K23 hv41 al1 al2 al3 xl4 xs L)) ∧ (¬ iv40 = iv42 → ((0 : Int32) = 1)))))))) ∧ (((xs xl4.toNatClampNeg) &&& (63 : Int32)) = 10 → ((vp_in (xl4 + (1 : Int32)) L) ∧ ((ob h al1 10) ∧ wp_X11_floats h al1 (xs (xl4 + (1 : Int32)).toNatClampNeg) (fun hv43 iv44 => (vp_in (xl4 + (1 : Int32)) L) ∧ ((ob hv43 al2 11) ∧ wp_X12_floats hv43 al2 (xs (xl4 + (1 : Int32)).toNatClampNeg) (fun hv45 iv46 => (iv44 = iv46 → (wb_L_law_1373 K23 hv45 al1 al2 al3 xl4 xs L)) ∧ (¬ iv44 = iv46 → ((0 : Int32) = 1)))))))) ∧ (((xs xl4.toNatClampNeg) &&& (63 : Int32)) = 11 → ((vp_in (xl4 + (1 : Int32)) L) ∧ ((vp_in (xl4 + (2 : Int32)) L) ∧ ((ob h al1 10) ∧ wp_X11_gap h al1 (xs (xl4 + (1 : Int32)).toNatClampNeg) (xs (xl4 + (2 : Int32)).toNatClampNeg) (fun hv47 iv48 => (vp_in (xl4 + (1 : Int32)) L) ∧ ((vp_in (xl4 + (2 : Int32)) L) ∧ ((ob hv47 al2 11) ∧ wp_X12_gap hv47 al2 (xs (xl4 + (1 : Int32)).toNatClampNeg) (xs (xl4 + (2 : Int32)).toNatClampNeg) (fun hv49 iv50 => (iv48 = iv50 → (wb_L_law_1373 K23 hv49 al1 al2 al3 xl4 xs L)) ∧ (¬ iv48 = iv50 → ((0 : Int32) = 1)))))))))) ∧ (((xs xl4.toNatClampNeg) &&& (63 : Int32)) = 12 → ((vp_in (xl4 + (1 : Int32)) L) ∧ ((vp_in (xl4 + (2 : Int32)) L) ∧ ((vp_in (xl4 + (3 : Int32)) L) ∧ ((ob h al1 10) ∧ wp_X11_move h al1 (xs (xl4 + (1 : Int32)).toNatClampNeg) (xs (xl4 + (2 : Int32)).toNatClampNeg) (xs (xl4 + (3 : Int32)).toNatClampNeg) (fun hv51 iv52 => (vp_in (xl4 + (1 : Int32)) L) ∧ ((vp_in (xl4 + (2 : Int32)) L) ∧ ((vp_in (xl4 + (3 : Int32)) L) ∧ ((ob hv51 al2 11) ∧ wp_X12_move hv51 al2 (xs (xl4 + (1 : Int32)).toNatClampNeg) (xs (xl4 + (2 : Int32)).toNatClampNeg) (xs (xl4 + (3 : Int32)).toNatClampNeg) (fun hv53 iv54 => (iv52 = iv54 → (wb_L_law_1373 K23 hv53 al1 al2 al3 xl4 xs L)) ∧ (¬ iv52 = iv54 → ((0 : Int32) = 1)))))))))))) ∧ (((xs xl4.toNatClampNeg) &&& (63 : Int32)) = 13 → ((vp_in (xl4 + (1 : Int32)) L) ∧ ((ob h al1 10) ∧ wp_X11_wants h al1 (xs (xl4 + (1 : Int32)).toNatClampNeg) (fun hv55 iv56 => (vp_in (xl4 + (1 : Int32)) L) ∧ ((ob hv55 al2 11) ∧ wp_X12_wants hv55 al2 (xs (xl4 + (1 : Int32)).toNatClampNeg) (fun hv57 iv58 => (iv56 = iv58 → (wb_L_law_1373 K23 hv57 al1 al2 al3 xl4 xs L)) ∧ (¬ iv56 = iv58 → ((0 : Int32) = 1)))))))) ∧ (((xs xl4.toNatClampNeg) &&& (63 : Int32)) = 14 → ((ob h al1 10) ∧ wp_X11_plan h al1  (fun hv59 iv60 => (ob hv59 al2 11) ∧ wp_X12_plan hv59 al2  (fun hv61 iv62 => (iv60 = iv62 → (wb_L_law_1373 K23 hv61 al1 al2 al3 xl4 xs L)) ∧ (¬ iv60 = iv62 → ((0 : Int32) = 1)))))) ∧ (((xs xl4.toNatClampNeg) &&& (63 : Int32)) = 15 → ((vp_in (xl4 + (1 : Int32)) L) ∧ ((vp_in (xl4 + (2 : Int32)) L) ∧ (wp_L_act h al1 (xs (xl4 + (1 : Int32)).toNatClampNeg) (xs (xl4 + (2 : Int32)).toNatClampNeg) al3 (fun hv63 iv64 => (vp_in (xl4 + (1 : Int32)) L) ∧ ((vp_in (xl4 + (2 : Int32)) L) ∧ ((ob hv63 al2 11) ∧ wp_X12_act_ hv63 al2 (xs (xl4 + (1 : Int32)).toNatClampNeg) (xs (xl4 + (2 : Int32)).toNatClampNeg) (fun hv65 iv66 => (ob hv65 al2 11) ∧ wp_X12_thrown hv65 al2  (fun hv67 iv68 => (iv68 = iv64 → ((¬ iv64 = 0 → (wb_L_law_751 K23 hv67 al1 al2 al3 xl4 xs L)) ∧ (iv64 = 0 → ((ob hv67 al3 14) ∧ ((vp_in 0 (aL hv67 al3)) ∧ (((lg_cmp (aJ hv67 al3 (0 : Int32).toNatClampNeg) iv66.toInt64) = 0 → (wb_L_law_751 K23 hv67 al1 al2 al3 xl4 xs L)) ∧ (¬ (lg_cmp (aJ hv67 al3 (0 : Int32).toNatClampNeg) iv66.toInt64) = 0 → ((0 : Int32) = 1)))))))) ∧ (¬ iv68 = iv64 → ((0 : Int32) = 1))))))))))) ∧ (((xs xl4.toNatClampNeg) &&& (63 : Int32)) = 16 → ((vp_in (xl4 + (1 : Int32)) L) ∧ ((ob h al1 10) ∧ wp_X11_judge h al1 (xs (xl4 + (1 : Int32)).toNatClampNeg) (fun hv69 iv70 => (vp_in (xl4 + (1 : Int32)) L) ∧ ((ob hv69 al2 11) ∧ wp_X12_judge hv69 al2 (xs (xl4 + (1 : Int32)).toNatClampNeg) (fun hv71 iv72 => (iv70 = iv72 → (wb_L_law_1373 K23 hv71 al1 al2 al3 xl4 xs L)) ∧ (¬ iv70 = iv72 → ((0 : Int32) = 1)))))))) ∧ (((xs xl4.toNatClampNeg) &&& (63 : Int32)) = 17 → ((vp_in (xl4 + (1 : Int32)) L) ∧ ((ob h al1 10) ∧ wp_X11_judged h al1 (xs (xl4 + (1 : Int32)).toNatClampNeg) (fun hv73 iv74 => (vp_in (xl4 + (1 : Int32)) L) ∧ ((ob hv73 al2 11) ∧ wp_X12_judged hv73 al2 (xs (xl4 + (1 : Int32)).toNatClampNeg) (fun hv75 iv76 => (iv74 = iv76 → (wb_L_law_1373 K23 hv75 al1 al2 al3 xl4 xs L)) ∧ (¬ iv74 = iv76 → ((0 : Int32) = 1)))))))) ∧ (((xs xl4.toNatClampNeg) &&& (63 : Int32)) = 18 → ((vp_in (xl4 + (1 : Int32)) L) ∧ ((vp_in (xl4 + (2 : Int32)) L) ∧ ((ob h al1 10) ∧ wp_X11_judgedAt h al1 (xs (xl4 + (1 : Int32)).toNatClampNeg) (xs (xl4 + (2 : Int32)).toNatClampNeg) (fun hv77 iv78 => (vp_in (xl4 + (1 : Int32)) L) ∧ ((vp_in (xl4 + (2 : Int32)) L) ∧ ((ob hv77 al2 11) ∧ wp_X12_judgedAt hv77 al2 (xs (xl4 + (1 : Int32)).toNatClampNeg) (xs (xl4 + (2 : Int32)).toNatClampNeg) (fun hv79 iv80 => (iv78 = iv80 → (wb_L_law_1373 K23 hv79 al1 al2 al3 xl4 xs L)) ∧ (¬ iv78 = iv80 → ((0 : Int32) = 1)))))))))) ∧ (((xs xl4.toNatClampNeg) &&& (63 : Int32)) = 19 → ((vp_in (xl4 + (1 : Int32)) L) ∧ ((ob h al1 10) ∧ wp_X11_tooMany h al1 (xs (xl4 + (1 : Int32)).toNatClampNeg) (fun hv81 iv82 => (vp_in (xl4 + (1 : Int32)) L) ∧ ((ob hv81 al2 11) ∧ wp_X12_tooMany hv81 al2 (xs (xl4 + (1 : Int32)).toNatClampNeg) (fun hv83 iv84 => (iv82 = iv84 → (wb_L_law_1373 K23 hv83 al1 al2 al3 xl4 xs L)) ∧ (¬ iv82 = iv84 → ((0 : Int32) = 1)))))))) ∧ (((xs xl4.toNatClampNeg) &&& (63 : Int32)) = 20 → ((vp_in (xl4 + (1 : Int32)) L) ∧ ((ob h al1 10) ∧ wp_X11_instead h al1 (xs (xl4 + (1 : Int32)).toNatClampNeg) (fun hv85 iv86 => (vp_in (xl4 + (1 : Int32)) L) ∧ ((ob hv85 al2 11) ∧ wp_X12_instead hv85 al2 (xs (xl4 + (1 : Int32)).toNatClampNeg) (fun hv87 iv88 => (iv86 = iv88 → (wb_L_law_1373 K23 hv87 al1 al2 al3 xl4 xs L)) ∧ (¬ iv86 = iv88 → ((0 : Int32) = 1)))))))) ∧ (((xs xl4.toNatClampNeg) &&& (63 : Int32)) = 21 → ((vp_in (xl4 + (1 : Int32)) L) ∧ ((ob h al1 10) ∧ wp_X11_least h al1 (xs (xl4 + (1 : Int32)).toNatClampNeg) (fun hv89 iv90 => (vp_in (xl4 + (1 : Int32)) L) ∧ ((ob hv89 al2 11) ∧ wp_X12_least hv89 al2 (xs (xl4 + (1 : Int32)).toNatClampNeg) (fun hv91 iv92 => (iv90 = iv92 → (wb_L_law_1373 K23 hv91 al1 al2 al3 xl4 xs L)) ∧ (¬ iv90 = iv92 → ((0 : Int32) = 1)))))))) ∧ (((xs xl4.toNatClampNeg) &&& (63 : Int32)) = 22 → ((vp_in (xl4 + (1 : Int32)) L) ∧ ((vp_in (xl4 + (2 : Int32)) L) ∧ ((vp_in (xl4 + (3 : Int32)) L) ∧ ((ob h al1 10) ∧ wp_X11_changed h al1 (xs (xl4 + (1 : Int32)).toNatClampNeg) (xs (xl4 + (2 : Int32)).toNatClampNeg) (xs (xl4 + (3 : Int32)).toNatClampNeg) (fun hv93 iv94 => (vp_in (xl4 + (1 : Int32)) L) ∧ ((vp_in (xl4 + (2 : Int32)) L) ∧ ((vp_in (xl4 + (3 : Int32)) L) ∧ ((ob hv93 al2 11) ∧ wp_X12_changed hv93 al2 (xs (xl4 + (1 : Int32)).toNatClampNeg) (xs (xl4 + (2 : Int32)).toNatClampNeg) (xs (xl4 + (3 : Int32)).toNatClampNeg) (fun hv95 iv96 => (iv94 = iv96 → (wb_L_law_1373 K23 hv95 al1 al2 al3 xl4 xs L)) ∧ (¬ iv94 = iv96 → ((0 : Int32) = 1)))))))))))) ∧ (((xs xl4.toNatClampNeg) &&& (63 : Int32)) = 23 → ((vp_in (xl4 + (1 : Int32)) L) ∧ ((vp_in (xl4 + (2 : Int32)) L) ∧ ((vp_in (xl4 + (3 : Int32)) L) ∧ ((vp_in (xl4 + (4 : Int32)) L) ∧ ((vp_in (xl4 + (5 : Int32)) L) ∧ ((ob h al1 10) ∧ wp_X11_alone h al1 (xs (xl4 + (1 : Int32)).toNatClampNeg) (xs (xl4 + (2 : Int32)).toNatClampNeg) (xs (xl4 + (3 : Int32)).toNatClampNeg) (xs (xl4 + (4 : Int32)).toNatClampNeg) (xs (xl4 + (5 : Int32)).toNatClampNeg) (fun hv97 iv98 => (vp_in (xl4 + (1 : Int32)) L) ∧ ((vp_in (xl4 + (2 : Int32)) L) ∧ ((vp_in (xl4 + (3 : Int32)) L) ∧ ((vp_in (xl4 + (4 : Int32)) L) ∧ ((vp_in (xl4 + (5 : Int32)) L) ∧ ((ob hv97 al2 11) ∧ wp_X12_alone hv97 al2 (xs (xl4 + (1 : Int32)).toNatClampNeg) (xs (xl4 + (2 : Int32)).toNatClampNeg) (xs (xl4 + (3 : Int32)).toNatClampNeg) (xs (xl4 + (4 : Int32)).toNatClampNeg) (xs (xl4 + (5 : Int32)).toNatClampNeg) (fun hv99 iv100 => (iv98 = iv100 → (wb_L_law_1373 K23 hv99 al1 al2 al3 xl4 xs L)) ∧ (¬ iv98 = iv100 → ((0 : Int32) = 1)))))))))))))))) ∧ (((xs xl4.toNatClampNeg) &&& (63 : Int32)) = 24 → ((vp_in (xl4 + (1 : Int32)) L) ∧ ((vp_in (xl4 + (2 : Int32)) L) ∧ ((ob h al1 10) ∧ wp_X11_best h al1 (xs (xl4 + (1 : Int32)).toNatClampNeg) (xs (xl4 + (2 : Int32)).toNatClampNeg) (fun hv101 iv102 => (vp_in (xl4 + (1 : Int32)) L) ∧ ((vp_in (xl4 + (2 : Int32)) L) ∧ ((ob hv101 al2 11) ∧ wp_X12_best hv101 al2 (xs (xl4 + (1 : Int32)).toNatClampNeg) (xs (xl4 + (2 : Int32)).toNatClampNeg) (fun hv103 iv104 => (iv102 = iv104 → (wb_L_law_1373 K23 hv103 al1 al2 al3 xl4 xs L)) ∧ (¬ iv102 = iv104 → ((0 : Int32) = 1)))))))))) ∧ (((xs xl4.toNatClampNeg) &&& (63 : Int32)) = 25 → ((vp_in (xl4 + (1 : Int32)) L) ∧ ((ob h al1 10) ∧ wp_X11_found h al1 (xs (xl4 + (1 : Int32)).toNatClampNeg) (fun hv105 iv106 => (vp_in (xl4 + (1 : Int32)) L) ∧ ((ob hv105 al2 11) ∧ wp_X12_found hv105 al2 (xs (xl4 + (1 : Int32)).toNatClampNeg) (fun hv107 iv108 => (iv106 = iv108 → (wb_L_law_1373 K23 hv107 al1 al2 al3 xl4 xs L)) ∧ (¬ iv106 = iv108 → ((0 : Int32) = 1)))))))) ∧ (((xs xl4.toNatClampNeg) &&& (63 : Int32)) = 26 → ((ob h al1 10) ∧ wp_X11_all h al1  (fun hv109 iv110 => (ob hv109 al2 11) ∧ wp_X12_all hv109 al2  (fun hv111 iv112 => (iv110 = iv112 → (wb_L_law_1373 K23 hv111 al1 al2 al3 xl4 xs L)) ∧ (¬ iv110 = iv112 → ((0 : Int32) = 1)))))) ∧ (((xs xl4.toNatClampNeg) &&& (63 : Int32)) = 27 → ((vp_in (xl4 + (1 : Int32)) L) ∧ ((vp_in (xl4 + (2 : Int32)) L) ∧ ((ob h al1 10) ∧ wp_X11_allAt h al1 (xs (xl4 + (1 : Int32)).toNatClampNeg) (xs (xl4 + (2 : Int32)).toNatClampNeg) (fun hv113 iv114 => (vp_in (xl4 + (1 : Int32)) L) ∧ ((vp_in (xl4 + (2 : Int32)) L) ∧ ((ob hv113 al2 11) ∧ wp_X12_allAt hv113 al2 (xs (xl4 + (1 : Int32)).toNatClampNeg) (xs (xl4 + (2 : Int32)).toNatClampNeg) (fun hv115 iv116 => (iv114 = iv116 → (wb_L_law_1373 K23 hv115 al1 al2 al3 xl4 xs L)) ∧ (¬ iv114 = iv116 → ((0 : Int32) = 1)))))))))) ∧ (((xs xl4.toNatClampNeg) &&& (63 : Int32)) = 28 → ((ob h al1 10) ∧ wp_X11_left h al1  (fun hv117 iv118 => (ob hv117 al2 11) ∧ wp_X12_left hv117 al2  (fun hv119 iv120 => (iv118 = iv120 → (wb_L_law_1373 K23 hv119 al1 al2 al3 xl4 xs L)) ∧ (¬ iv118 = iv120 → ((0 : Int32) = 1)))))) ∧ (((xs xl4.toNatClampNeg) &&& (63 : Int32)) = 29 → ((vp_in (xl4 + (1 : Int32)) L) ∧ ((vp_in (xl4 + (2 : Int32)) L) ∧ ((vp_in (xl4 + (3 : Int32)) L) ∧ ((vp_in (xl4 + (4 : Int32)) L) ∧ ((ob h al1 10) ∧ wp_X11_could h al1 (xs (xl4 + (1 : Int32)).toNatClampNeg) (xs (xl4 + (2 : Int32)).toNatClampNeg) (xs (xl4 + (3 : Int32)).toNatClampNeg) (xs (xl4 + (4 : Int32)).toNatClampNeg) (fun hv121 iv122 => (vp_in (xl4 + (1 : Int32)) L) ∧ ((vp_in (xl4 + (2 : Int32)) L) ∧ ((vp_in (xl4 + (3 : Int32)) L) ∧ ((vp_in (xl4 + (4 : Int32)) L) ∧ ((ob hv121 al2 11) ∧ wp_X12_could hv121 al2 (xs (xl4 + (1 : Int32)).toNatClampNeg) (xs (xl4 + (2 : Int32)).toNatClampNeg) (xs (xl4 + (3 : Int32)).toNatClampNeg) (xs (xl4 + (4 : Int32)).toNatClampNeg) (fun hv123 iv124 => (iv122 = iv124 → (wb_L_law_1373 K23 hv123 al1 al2 al3 xl4 xs L)) ∧ (¬ iv122 = iv124 → ((0 : Int32) = 1)))))))))))))) ∧ (((xs xl4.toNatClampNeg) &&& (63 : Int32)) = 30 → ((vp_in (xl4 + (1 : Int32)) L) ∧ ((ob h al1 10) ∧ wp_X11_storm h al1 (xs (xl4 + (1 : Int32)).toNatClampNeg) (fun hv125 iv126 => (vp_in (xl4 + (1 : Int32)) L) ∧ ((ob hv125 al2 11) ∧ wp_X12_storm hv125 al2 (xs (xl4 + (1 : Int32)).toNatClampNeg) (fun hv127 iv128 => (iv126 = iv128 → (wb_L_law_1373 K23 hv127 al1 al2 al3 xl4 xs L)) ∧ (¬ iv126 = iv128 → ((0 : Int32) = 1)))))))) ∧ (((xs xl4.toNatClampNeg) &&& (63 : Int32)) = 31 → ((vp_in (xl4 + (1 : Int32)) L) ∧ ((vp_in (xl4 + (2 : Int32)) L) ∧ ((vp_in (xl4 + (3 : Int32)) L) ∧ ((ob h al1 10) ∧ wp_X11_cut h al1 (xs (xl4 + (1 : Int32)).toNatClampNeg) (xs (xl4 + (2 : Int32)).toNatClampNeg) (xs (xl4 + (3 : Int32)).toNatClampNeg) (fun hv129 iv130 => (vp_in (xl4 + (1 : Int32)) L) ∧ ((vp_in (xl4 + (2 : Int32)) L) ∧ ((vp_in (xl4 + (3 : Int32)) L) ∧ ((ob hv129 al2 11) ∧ wp_X12_cut hv129 al2 (xs (xl4 + (1 : Int32)).toNatClampNeg) (xs (xl4 + (2 : Int32)).toNatClampNeg) (xs (xl4 + (3 : Int32)).toNatClampNeg) (fun hv131 iv132 => (iv130 = iv132 → (wb_L_law_1373 K23 hv131 al1 al2 al3 xl4 xs L)) ∧ (¬ iv130 = iv132 → ((0 : Int32) = 1)))))))))))) ∧ (((xs xl4.toNatClampNeg) &&& (63 : Int32)) = 32 → ((vp_in (xl4 + (1 : Int32)) L) ∧ ((ob h al1 10) ∧ wp_X11_image h al1 (xs (xl4 + (1 : Int32)).toNatClampNeg) (fun hv133 iv134 => (vp_in (xl4 + (1 : Int32)) L) ∧ ((ob hv133 al2 11) ∧ wp_X12_image hv133 al2 (xs (xl4 + (1 : Int32)).toNatClampNeg) (fun hv135 iv136 => (iv134 = iv136 → (wb_L_law_1373 K23 hv135 al1 al2 al3 xl4 xs L)) ∧ (¬ iv134 = iv136 → ((0 : Int32) = 1)))))))) ∧ (((xs xl4.toNatClampNeg) &&& (63 : Int32)) = 33 → ((vp_in (xl4 + (1 : Int32)) L) ∧ ((ob h al1 10) ∧ wp_X11_restore h al1 (xs (xl4 + (1 : Int32)).toNatClampNeg) (fun hv137 iv138 => (vp_in (xl4 + (1 : Int32)) L) ∧ ((ob hv137 al2 11) ∧ wp_X12_restore hv137 al2 (xs (xl4 + (1 : Int32)).toNatClampNeg) (fun hv139 iv140 => (iv138 = iv140 → (wb_L_law_1373 K23 hv139 al1 al2 al3 xl4 xs L)) ∧ (¬ iv138 = iv140 → ((0 : Int32) = 1)))))))) ∧ (((xs xl4.toNatClampNeg) &&& (63 : Int32)) = 34 → ((vp_in (xl4 + (1 : Int32)) L) ∧ ((ob h al1 10) ∧ wp_X11_count h al1 (xs (xl4 + (1 : Int32)).toNatClampNeg) (fun hv141 iv142 => (vp_in (xl4 + (1 : Int32)) L) ∧ ((ob hv141 al2 11) ∧ wp_X12_count hv141 al2 (xs (xl4 + (1 : Int32)).toNatClampNeg) (fun hv143 iv144 => (iv142 = iv144 → (wb_L_law_1373 K23 hv143 al1 al2 al3 xl4 xs L)) ∧ (¬ iv142 = iv144 → ((0 : Int32) = 1)))))))) ∧ ((((xs xl4.toNatClampNeg) &&& (63 : Int32)).toInt < 0 ∨ 34 < ((xs xl4.toNatClampNeg) &&& (63 : Int32)).toInt) → (wb_L_law_1373 K23 h al1 al2 al3 xl4 xs L)))))
set_option maxRecDepth 100000 in
theorem tb_L_law_23 {G : GG} {p : Program} {l : Launch} {e : Env} {s : State} {m : MethodId} {below : List Frame} {meth : Method} {c : Code} {xs : Nat → Int32} {L bb : Nat} (C : Cx G p room_1 s m #[Value.ref bb] meth c 7 cL_law RL 0 0 10 362) (hr : meth.sig.returnType = some .boolean) (hlt : l.stackTraces = false) (hS : SX G s) (hE : XE G s) (hX : va_X bb L xs s G.2.1) (hbl : bb < G.1) {K23 : AH → Nat → Nat → Nat → Int32 → Prop} (hK23 : ∀ (h : AH) (al1 : Nat) (al2 : Nat) (al3 : Nat) (xl4 : Int32), K23 h al1 al2 al3 xl4 → AW G p l e room_1 s m #[Value.ref bb] below meth c 7 (lw_Z below #[Value.ref bb] s) 23 [(0, .ref bb), (1, .ref (G.1 + al1)), (2, .ref (G.1 + al2)), (3, .ref (G.1 + al3)), (4, .int xl4)] [] h) {h : AH} {al1 : Nat} {al2 : Nat} {al3 : Nat} {xl4 : Int32}  (hw : wb_L_law_23 K23 h al1 al2 al3 xl4 xs L) : AW G p l e room_1 s m #[Value.ref bb] below meth c 7 (lw_Z below #[Value.ref bb] s) 23 [(0, .ref bb), (1, .ref (G.1 + al1)), (2, .ref (G.1 + al2)), (3, .ref (G.1 + al3)), (4, .int xl4)] [] h := by
  unfold wb_L_law_23 at hw
  refine r_iload C dL_law_23 4 rfl ?_
  refine r_aload_n C dL_law_25 0 rfl ?_
  refine l_slen C hX hbl dL_law_26 ?_
  refine r_bipush (v := 6) C dL_law_27 (by decide) ?_
  refine r_isub C dL_law_29 ?_
  refine r_icmp_gt C dL_law_30 1379 (by decide) (fun hc => ?_) (fun hc => ?_)
  · replace hw := hw.1 hc
    refine r_iconst (v := 1) C dL_law_1379 (by decide) ?_
    exact l_ret C hr dL_law_1380 hw
  · replace hw := hw.2 hc
    refine r_aload_n C dL_law_33 0 rfl ?_
    refine r_iload C dL_law_34 4 rfl ?_
    refine l_sld C hX hbl hw.1 dL_law_36 ?_
    replace hw := hw.2
    refine r_bipush (v := 63) C dL_law_37 (by decide) ?_
    refine r_iand C dL_law_39 ?_
    by_cases hc0 : ((xs xl4.toNatClampNeg) &&& (63 : Int32)) = 0
    · replace hw := hw.1 hc0
      refine r_tableIn C dL_law_40 (by rw [hc0]; decide) (by rw [hc0]; decide) (by rw [hc0]; rfl) 196 (by decide) ?_
      refine r_aload_n C dL_law_196 1 rfl ?_
      refine r_aload_n C dL_law_197 0 rfl ?_
      refine r_iload C dL_law_198 4 rfl ?_
      refine r_iconst (v := 1) C dL_law_200 (by decide) ?_
      refine r_iadd C dL_law_201 ?_
      refine l_sld C hX hbl hw.1 dL_law_202 ?_
      replace hw := hw.2
      refine r_aload_n C dL_law_203 0 rfl ?_
      refine r_iload C dL_law_204 4 rfl ?_
      refine r_iconst (v := 2) C dL_law_206 (by decide) ?_
      refine r_iadd C dL_law_207 ?_
      refine l_sld C hX hbl hw.1 dL_law_208 ?_
      replace hw := hw.2
      refine r_aload_n C dL_law_209 0 rfl ?_
      refine r_iload C dL_law_210 4 rfl ?_
      refine r_iconst (v := 3) C dL_law_212 (by decide) ?_
      refine r_iadd C dL_law_213 ?_
      refine l_sld C hX hbl hw.1 dL_law_214 ?_
      replace hw := hw.2
      refine r_aload_n C dL_law_215 0 rfl ?_
      refine r_iload C dL_law_216 4 rfl ?_
      refine r_iconst (v := 4) C dL_law_218 (by decide) ?_
      refine r_iadd C dL_law_219 ?_
      refine l_sld C hX hbl hw.1 dL_law_220 ?_
      replace hw := hw.2
      refine r_aload_n C dL_law_221 0 rfl ?_
      refine r_iload C dL_law_222 4 rfl ?_
      refine r_iconst (v := 5) C dL_law_224 (by decide) ?_
      refine r_iadd C dL_law_225 ?_
      refine l_sld C hX hbl hw.1 dL_law_226 ?_
      replace hw := hw.2
      have hob := hw.1
      replace hw := hw.2
      refine r_callV C (As := [.int (xs (xl4 + (1 : Int32)).toNatClampNeg), .int (xs (xl4 + (2 : Int32)).toNatClampNeg), .int (xs (xl4 + (3 : Int32)).toNatClampNeg), .int (xs (xl4 + (4 : Int32)).toNatClampNeg), .int (xs (xl4 + (5 : Int32)).toNatClampNeg)]) (rest := []) (c_X11_feed G h al1 (xs (xl4 + (1 : Int32)).toNatClampNeg) (xs (xl4 + (2 : Int32)).toNatClampNeg) (xs (xl4 + (3 : Int32)).toNatClampNeg) (xs (xl4 + (4 : Int32)).toNatClampNeg) (xs (xl4 + (5 : Int32)).toNatClampNeg) _ hw) yl_X11_feed (gm3 (List.mem_of_getElem? (i := 91) rfl) rfl) (gm3 (List.mem_of_getElem? (i := 92) rfl) rfl) (ci := 10) rfl (by decide) (gm3 (List.mem_of_getElem? (i := 93) rfl) rfl) hob (by decide) rfl (Nat.le_of_ble_eq_true rfl) dL_law_227 rfl (kI fun hv1 iv2 hw => ?_)
      refine r_aload_n C dL_law_230 2 rfl ?_
      refine r_aload_n C dL_law_231 0 rfl ?_
      refine r_iload C dL_law_232 4 rfl ?_
      refine r_iconst (v := 1) C dL_law_234 (by decide) ?_
      refine r_iadd C dL_law_235 ?_
      refine l_sld C hX hbl hw.1 dL_law_236 ?_
      replace hw := hw.2
      refine r_aload_n C dL_law_237 0 rfl ?_
      refine r_iload C dL_law_238 4 rfl ?_
      refine r_iconst (v := 2) C dL_law_240 (by decide) ?_
      refine r_iadd C dL_law_241 ?_
      refine l_sld C hX hbl hw.1 dL_law_242 ?_
      replace hw := hw.2
      refine r_aload_n C dL_law_243 0 rfl ?_
      refine r_iload C dL_law_244 4 rfl ?_
      refine r_iconst (v := 3) C dL_law_246 (by decide) ?_
      refine r_iadd C dL_law_247 ?_
      refine l_sld C hX hbl hw.1 dL_law_248 ?_
      replace hw := hw.2
      refine r_aload_n C dL_law_249 0 rfl ?_
      refine r_iload C dL_law_250 4 rfl ?_
      refine r_iconst (v := 4) C dL_law_252 (by decide) ?_
      refine r_iadd C dL_law_253 ?_
      refine l_sld C hX hbl hw.1 dL_law_254 ?_
      replace hw := hw.2
      refine r_aload_n C dL_law_255 0 rfl ?_
      refine r_iload C dL_law_256 4 rfl ?_
      refine r_iconst (v := 5) C dL_law_258 (by decide) ?_
      refine r_iadd C dL_law_259 ?_
      refine l_sld C hX hbl hw.1 dL_law_260 ?_
      replace hw := hw.2
      have hob := hw.1
      replace hw := hw.2
      refine r_callV C (As := [.int (xs (xl4 + (1 : Int32)).toNatClampNeg), .int (xs (xl4 + (2 : Int32)).toNatClampNeg), .int (xs (xl4 + (3 : Int32)).toNatClampNeg), .int (xs (xl4 + (4 : Int32)).toNatClampNeg), .int (xs (xl4 + (5 : Int32)).toNatClampNeg)]) (rest := [.int iv2]) (c_X12_feed G hv1 al2 (xs (xl4 + (1 : Int32)).toNatClampNeg) (xs (xl4 + (2 : Int32)).toNatClampNeg) (xs (xl4 + (3 : Int32)).toNatClampNeg) (xs (xl4 + (4 : Int32)).toNatClampNeg) (xs (xl4 + (5 : Int32)).toNatClampNeg) _ hw) yl_X12_feed (gm6 (List.mem_of_getElem? (i := 181) rfl) rfl) (gm6 (List.mem_of_getElem? (i := 182) rfl) rfl) (ci := 11) rfl (by decide) (gm6 (List.mem_of_getElem? (i := 183) rfl) rfl) hob (by decide) rfl (Nat.le_of_ble_eq_true rfl) dL_law_261 rfl (kI fun hv3 iv4 hw => ?_)
      refine r_icmp_eq C dL_law_264 1373 (by decide) (fun hc => ?_) (fun hc => ?_)
      · replace hw := hw.1 hc
        refine r_sub [0, 1, 2, 3, 4] rfl ?_
        exact tb_L_law_1373 C hr hlt hS hE hX hbl hK23 hw
      · replace hw := hw.2 hc
        refine r_iconst (v := 0) C dL_law_267 (by decide) ?_
        exact l_ret C hr dL_law_268 hw
    by_cases hc1 : ((xs xl4.toNatClampNeg) &&& (63 : Int32)) = 1
    · replace hw := hw.2.1 hc1
      refine r_tableIn C dL_law_40 (by rw [hc1]; decide) (by rw [hc1]; decide) (by rw [hc1]; rfl) 269 (by decide) ?_
      refine r_aload_n C dL_law_269 1 rfl ?_
      refine r_aload_n C dL_law_270 0 rfl ?_
      refine r_iload C dL_law_271 4 rfl ?_
      refine r_iconst (v := 1) C dL_law_273 (by decide) ?_
      refine r_iadd C dL_law_274 ?_
      refine l_sld C hX hbl hw.1 dL_law_275 ?_
      replace hw := hw.2
      have hob := hw.1
      replace hw := hw.2
      refine r_callV C (As := [.int (xs (xl4 + (1 : Int32)).toNatClampNeg)]) (rest := []) (c_X11_end G h al1 (xs (xl4 + (1 : Int32)).toNatClampNeg) _ hw) yl_X11_end (gm3 (List.mem_of_getElem? (i := 99) rfl) rfl) (gm3 (List.mem_of_getElem? (i := 100) rfl) rfl) (ci := 10) rfl (by decide) (gm3 (List.mem_of_getElem? (i := 101) rfl) rfl) hob (by decide) rfl (Nat.le_of_ble_eq_true rfl) dL_law_276 rfl (kI fun hv5 iv6 hw => ?_)
      refine r_aload_n C dL_law_279 2 rfl ?_
      refine r_aload_n C dL_law_280 0 rfl ?_
      refine r_iload C dL_law_281 4 rfl ?_
      refine r_iconst (v := 1) C dL_law_283 (by decide) ?_
      refine r_iadd C dL_law_284 ?_
      refine l_sld C hX hbl hw.1 dL_law_285 ?_
      replace hw := hw.2
      have hob := hw.1
      replace hw := hw.2
      refine r_callV C (As := [.int (xs (xl4 + (1 : Int32)).toNatClampNeg)]) (rest := [.int iv6]) (c_X12_end G hv5 al2 (xs (xl4 + (1 : Int32)).toNatClampNeg) _ hw) yl_X12_end (gm6 (List.mem_of_getElem? (i := 190) rfl) rfl) (gm6 (List.mem_of_getElem? (i := 191) rfl) rfl) (ci := 11) rfl (by decide) (gm6 (List.mem_of_getElem? (i := 192) rfl) rfl) hob (by decide) rfl (Nat.le_of_ble_eq_true rfl) dL_law_286 rfl (kI fun hv7 iv8 hw => ?_)
      refine r_icmp_eq C dL_law_289 1373 (by decide) (fun hc => ?_) (fun hc => ?_)
      · replace hw := hw.1 hc
        refine r_sub [0, 1, 2, 3, 4] rfl ?_
        exact tb_L_law_1373 C hr hlt hS hE hX hbl hK23 hw
      · replace hw := hw.2 hc
        refine r_iconst (v := 0) C dL_law_292 (by decide) ?_
        exact l_ret C hr dL_law_293 hw
    by_cases hc2 : ((xs xl4.toNatClampNeg) &&& (63 : Int32)) = 2
    · replace hw := hw.2.2.1 hc2
      refine r_tableIn C dL_law_40 (by rw [hc2]; decide) (by rw [hc2]; decide) (by rw [hc2]; rfl) 294 (by decide) ?_
      refine r_aload_n C dL_law_294 1 rfl ?_
      have hob := hw.1
      replace hw := hw.2
      refine r_callV C (As := []) (rest := []) (c_X11_lagoon G h al1  _ hw) yl_X11_lagoon (gm3 (List.mem_of_getElem? (i := 103) rfl) rfl) (gm3 (List.mem_of_getElem? (i := 104) rfl) rfl) (ci := 10) rfl (by decide) (gm3 (List.mem_of_getElem? (i := 105) rfl) rfl) hob (by decide) rfl (Nat.le_of_ble_eq_true rfl) dL_law_295 rfl (kI fun hv9 iv10 hw => ?_)
      refine r_aload_n C dL_law_298 2 rfl ?_
      have hob := hw.1
      replace hw := hw.2
      refine r_callV C (As := []) (rest := [.int iv10]) (c_X12_lagoon G hv9 al2  _ hw) yl_X12_lagoon (gm7 (List.mem_of_getElem? (i := 143) rfl) rfl) (gm7 (List.mem_of_getElem? (i := 144) rfl) rfl) (ci := 11) rfl (by decide) (gm7 (List.mem_of_getElem? (i := 145) rfl) rfl) hob (by decide) rfl (Nat.le_of_ble_eq_true rfl) dL_law_299 rfl (kI fun hv11 iv12 hw => ?_)
      refine r_icmp_eq C dL_law_302 1373 (by decide) (fun hc => ?_) (fun hc => ?_)
      · replace hw := hw.1 hc
        refine r_sub [0, 1, 2, 3, 4] rfl ?_
        exact tb_L_law_1373 C hr hlt hS hE hX hbl hK23 hw
      · replace hw := hw.2 hc
        refine r_iconst (v := 0) C dL_law_305 (by decide) ?_
        exact l_ret C hr dL_law_306 hw
    by_cases hc3 : ((xs xl4.toNatClampNeg) &&& (63 : Int32)) = 3
    · replace hw := hw.2.2.2.1 hc3
      refine r_tableIn C dL_law_40 (by rw [hc3]; decide) (by rw [hc3]; decide) (by rw [hc3]; rfl) 307 (by decide) ?_
      refine r_aload_n C dL_law_307 1 rfl ?_
      have hob := hw.1
      replace hw := hw.2
      refine r_callV C (As := []) (rest := []) (c_X11_fault G h al1  _ hw) yl_X11_fault (gm4 (List.mem_of_getElem? (i := 78) rfl) rfl) (gm4 (List.mem_of_getElem? (i := 79) rfl) rfl) (ci := 10) rfl (by decide) (gm4 (List.mem_of_getElem? (i := 80) rfl) rfl) hob (by decide) rfl (Nat.le_of_ble_eq_true rfl) dL_law_308 rfl (kI fun hv13 iv14 hw => ?_)
      refine r_aload_n C dL_law_311 2 rfl ?_
      have hob := hw.1
      replace hw := hw.2
      refine r_callV C (As := []) (rest := [.int iv14]) (c_X12_fault G hv13 al2  _ hw) yl_X12_fault (gm8 (List.mem_of_getElem? (i := 26) rfl) rfl) (gm8 (List.mem_of_getElem? (i := 27) rfl) rfl) (ci := 11) rfl (by decide) (gm8 (List.mem_of_getElem? (i := 28) rfl) rfl) hob (by decide) rfl (Nat.le_of_ble_eq_true rfl) dL_law_312 rfl (kI fun hv15 iv16 hw => ?_)
      refine r_icmp_eq C dL_law_315 1373 (by decide) (fun hc => ?_) (fun hc => ?_)
      · replace hw := hw.1 hc
        refine r_sub [0, 1, 2, 3, 4] rfl ?_
        exact tb_L_law_1373 C hr hlt hS hE hX hbl hK23 hw
      · replace hw := hw.2 hc
        refine r_iconst (v := 0) C dL_law_318 (by decide) ?_
        exact l_ret C hr dL_law_319 hw
    by_cases hc4 : ((xs xl4.toNatClampNeg) &&& (63 : Int32)) = 4
    · replace hw := hw.2.2.2.2.1 hc4
      refine r_tableIn C dL_law_40 (by rw [hc4]; decide) (by rw [hc4]; decide) (by rw [hc4]; rfl) 320 (by decide) ?_
      refine r_aload_n C dL_law_320 1 rfl ?_
      refine r_aload_n C dL_law_321 0 rfl ?_
      refine r_iload C dL_law_322 4 rfl ?_
      refine r_iconst (v := 1) C dL_law_324 (by decide) ?_
      refine r_iadd C dL_law_325 ?_
      refine l_sld C hX hbl hw.1 dL_law_326 ?_
      replace hw := hw.2
      refine r_aload_n C dL_law_327 0 rfl ?_
      refine r_iload C dL_law_328 4 rfl ?_
      refine r_iconst (v := 2) C dL_law_330 (by decide) ?_
      refine r_iadd C dL_law_331 ?_
      refine l_sld C hX hbl hw.1 dL_law_332 ?_
      replace hw := hw.2
      refine r_aload_n C dL_law_333 0 rfl ?_
      refine r_iload C dL_law_334 4 rfl ?_
      refine r_iconst (v := 3) C dL_law_336 (by decide) ?_
      refine r_iadd C dL_law_337 ?_
      refine l_sld C hX hbl hw.1 dL_law_338 ?_
      replace hw := hw.2
      have hob := hw.1
      replace hw := hw.2
      refine r_callV C (As := [.int (xs (xl4 + (1 : Int32)).toNatClampNeg), .int (xs (xl4 + (2 : Int32)).toNatClampNeg), .int (xs (xl4 + (3 : Int32)).toNatClampNeg)]) (rest := []) (c_X11_water G h al1 (xs (xl4 + (1 : Int32)).toNatClampNeg) (xs (xl4 + (2 : Int32)).toNatClampNeg) (xs (xl4 + (3 : Int32)).toNatClampNeg) _ hw) yl_X11_water (gm4 (List.mem_of_getElem? (i := 82) rfl) rfl) (gm4 (List.mem_of_getElem? (i := 83) rfl) rfl) (ci := 10) rfl (by decide) (gm4 (List.mem_of_getElem? (i := 84) rfl) rfl) hob (by decide) rfl (Nat.le_of_ble_eq_true rfl) dL_law_339 rfl (kI fun hv17 iv18 hw => ?_)
      refine r_aload_n C dL_law_342 2 rfl ?_
      refine r_aload_n C dL_law_343 0 rfl ?_
      refine r_iload C dL_law_344 4 rfl ?_
      refine r_iconst (v := 1) C dL_law_346 (by decide) ?_
      refine r_iadd C dL_law_347 ?_
      refine l_sld C hX hbl hw.1 dL_law_348 ?_
      replace hw := hw.2
      refine r_aload_n C dL_law_349 0 rfl ?_
      refine r_iload C dL_law_350 4 rfl ?_
      refine r_iconst (v := 2) C dL_law_352 (by decide) ?_
      refine r_iadd C dL_law_353 ?_
      refine l_sld C hX hbl hw.1 dL_law_354 ?_
      replace hw := hw.2
      refine r_aload_n C dL_law_355 0 rfl ?_
      refine r_iload C dL_law_356 4 rfl ?_
      refine r_iconst (v := 3) C dL_law_358 (by decide) ?_
      refine r_iadd C dL_law_359 ?_
      refine l_sld C hX hbl hw.1 dL_law_360 ?_
      replace hw := hw.2
      have hob := hw.1
      replace hw := hw.2
      refine r_callV C (As := [.int (xs (xl4 + (1 : Int32)).toNatClampNeg), .int (xs (xl4 + (2 : Int32)).toNatClampNeg), .int (xs (xl4 + (3 : Int32)).toNatClampNeg)]) (rest := [.int iv18]) (c_X12_water G hv17 al2 (xs (xl4 + (1 : Int32)).toNatClampNeg) (xs (xl4 + (2 : Int32)).toNatClampNeg) (xs (xl4 + (3 : Int32)).toNatClampNeg) _ hw) yl_X12_water (gm8 (List.mem_of_getElem? (i := 30) rfl) rfl) (gm8 (List.mem_of_getElem? (i := 31) rfl) rfl) (ci := 11) rfl (by decide) (gm8 (List.mem_of_getElem? (i := 32) rfl) rfl) hob (by decide) rfl (Nat.le_of_ble_eq_true rfl) dL_law_361 rfl (kI fun hv19 iv20 hw => ?_)
      refine r_icmp_eq C dL_law_364 1373 (by decide) (fun hc => ?_) (fun hc => ?_)
      · replace hw := hw.1 hc
        refine r_sub [0, 1, 2, 3, 4] rfl ?_
        exact tb_L_law_1373 C hr hlt hS hE hX hbl hK23 hw
      · replace hw := hw.2 hc
        refine r_iconst (v := 0) C dL_law_367 (by decide) ?_
        exact l_ret C hr dL_law_368 hw
    by_cases hc5 : ((xs xl4.toNatClampNeg) &&& (63 : Int32)) = 5
    · replace hw := hw.2.2.2.2.2.1 hc5
      refine r_tableIn C dL_law_40 (by rw [hc5]; decide) (by rw [hc5]; decide) (by rw [hc5]; rfl) 369 (by decide) ?_
      refine r_aload_n C dL_law_369 1 rfl ?_
      refine r_aload_n C dL_law_370 0 rfl ?_
      refine r_iload C dL_law_371 4 rfl ?_
      refine r_iconst (v := 1) C dL_law_373 (by decide) ?_
      refine r_iadd C dL_law_374 ?_
      refine l_sld C hX hbl hw.1 dL_law_375 ?_
      replace hw := hw.2
      refine r_aload_n C dL_law_376 0 rfl ?_
      refine r_iload C dL_law_377 4 rfl ?_
      refine r_iconst (v := 2) C dL_law_379 (by decide) ?_
      refine r_iadd C dL_law_380 ?_
      refine l_sld C hX hbl hw.1 dL_law_381 ?_
      replace hw := hw.2
      refine r_aload_n C dL_law_382 3 rfl ?_
      refine l_callW (n := 4) C hlt hE (As := [.ref (G.1 + al1), .int (xs (xl4 + (1 : Int32)).toNatClampNeg), .int (xs (xl4 + (2 : Int32)).toNatClampNeg), .ref (G.1 + al3)]) (rest := []) (c_L_raft G h al1 (xs (xl4 + (1 : Int32)).toNatClampNeg) (xs (xl4 + (2 : Int32)).toNatClampNeg) al3 _ hw) cw_L_raft (gm1 (List.mem_of_getElem? (i := 0) rfl) rfl) (gm6 (List.mem_of_getElem? (i := 99) rfl) rfl) (gm6 (List.mem_of_getElem? (i := 100) rfl) rfl) ⟨by decide, by decide, by decide +kernel⟩ (by decide) rfl (Nat.le_of_ble_eq_true rfl) dL_law_383 rfl (kI fun hv21 iv22 hw => ?_)
      refine r_istore C dL_law_386 [(5, .int iv22), (0, .ref bb), (1, .ref (G.1 + al1)), (2, .ref (G.1 + al2)), (3, .ref (G.1 + al3)), (4, .int xl4)] (by decide) rfl ?_
      refine r_aload_n C dL_law_388 3 rfl ?_
      refine r_aload_n C dL_law_389 1 rfl ?_
      refine r_iload C dL_law_390 5 rfl ?_
      refine r_iconst (v := 1) C dL_law_392 (by decide) ?_
      refine r_iadd C dL_law_393 ?_
      refine l_sld C hX hbl hw.1 dL_law_394 ?_
      replace hw := hw.2
      refine r_aload_n C dL_law_395 1 rfl ?_
      refine r_iload C dL_law_396 5 rfl ?_
      refine r_iconst (v := 2) C dL_law_398 (by decide) ?_
      refine r_iadd C dL_law_399 ?_
      refine l_sld C hX hbl hw.1 dL_law_400 ?_
      replace hw := hw.2
      have hob := hw.1
      replace hw := hw.2
      refine r_callV C (As := [.int (xs (xl4 + (1 : Int32)).toNatClampNeg), .int (xs (xl4 + (2 : Int32)).toNatClampNeg)]) (rest := []) (c_X12_raft G hv21 al2 (xs (xl4 + (1 : Int32)).toNatClampNeg) (xs (xl4 + (2 : Int32)).toNatClampNeg) _ hw) yl_X12_raft (gm8 (List.mem_of_getElem? (i := 45) rfl) rfl) (gm8 (List.mem_of_getElem? (i := 46) rfl) rfl) (ci := 11) rfl (by decide) (gm8 (List.mem_of_getElem? (i := 47) rfl) rfl) hob (by decide) rfl (Nat.le_of_ble_eq_true rfl) dL_law_401 rfl (kI fun hv23 iv24 hw => ?_)
      refine r_istore C dL_law_404 [(6, .int iv24), (5, .int iv22), (0, .ref bb), (1, .ref (G.1 + al1)), (2, .ref (G.1 + al2)), (3, .ref (G.1 + al3)), (4, .int xl4)] (by decide) rfl ?_
      refine r_aload_n C dL_law_406 4 rfl ?_
      have hob := hw.1
      replace hw := hw.2
      refine r_callV C (As := []) (rest := []) (c_X12_thrown G hv23 al2  _ hw) yl_X12_thrown (gm6 (List.mem_of_getElem? (i := 177) rfl) rfl) (gm6 (List.mem_of_getElem? (i := 178) rfl) rfl) (ci := 11) rfl (by decide) (gm6 (List.mem_of_getElem? (i := 179) rfl) rfl) hob (by decide) rfl (Nat.le_of_ble_eq_true rfl) dL_law_407 rfl (kI fun hv25 iv26 hw => ?_)
      refine r_iload C dL_law_410 1 rfl ?_
      refine r_icmp_eq C dL_law_412 417 (by decide) (fun hc => ?_) (fun hc => ?_)
      · replace hw := hw.1 hc
        refine r_iload C dL_law_417 1 rfl ?_
        refine r_if_ne C dL_law_419 434 (by decide) (fun hc => ?_) (fun hc => ?_)
        · replace hw := hw.1 hc
          refine r_sub [2, 3, 4, 5, 6] rfl ?_
          exact tb_L_law_434 C hr hlt hS hE hX hbl hK23 hw
        · replace hw := hw.2 hc
          refine r_aload_n C dL_law_422 5 rfl ?_
          refine r_iconst (v := 0) C dL_law_423 (by decide) ?_
          refine r_laload C hw.1 hw.2.1 dL_law_424 ?_
          replace hw := hw.2.2
          refine r_iload C dL_law_425 0 rfl ?_
          refine r_i2l C dL_law_427 ?_
          refine r_lcmp C dL_law_428 ?_
          refine r_if_eq C dL_law_429 434 (by decide) (fun hc => ?_) (fun hc => ?_)
          · replace hw := hw.1 hc
            refine r_sub [2, 3, 4, 5, 6] rfl ?_
            exact tb_L_law_434 C hr hlt hS hE hX hbl hK23 hw
          · replace hw := hw.2 hc
            refine r_iconst (v := 0) C dL_law_432 (by decide) ?_
            exact l_ret C hr dL_law_433 hw
      · replace hw := hw.2 hc
        refine r_iconst (v := 0) C dL_law_415 (by decide) ?_
        exact l_ret C hr dL_law_416 hw
    by_cases hc6 : ((xs xl4.toNatClampNeg) &&& (63 : Int32)) = 6
    · replace hw := hw.2.2.2.2.2.2.1 hc6
      refine r_tableIn C dL_law_40 (by rw [hc6]; decide) (by rw [hc6]; decide) (by rw [hc6]; rfl) 437 (by decide) ?_
      refine r_aload_n C dL_law_437 1 rfl ?_
      refine r_aload_n C dL_law_438 0 rfl ?_
      refine r_iload C dL_law_439 4 rfl ?_
      refine r_iconst (v := 1) C dL_law_441 (by decide) ?_
      refine r_iadd C dL_law_442 ?_
      refine l_sld C hX hbl hw.1 dL_law_443 ?_
      replace hw := hw.2
      refine r_aload_n C dL_law_444 0 rfl ?_
      refine r_iload C dL_law_445 4 rfl ?_
      refine r_iconst (v := 2) C dL_law_447 (by decide) ?_
      refine r_iadd C dL_law_448 ?_
      refine l_sld C hX hbl hw.1 dL_law_449 ?_
      replace hw := hw.2
      have hob := hw.1
      replace hw := hw.2
      refine r_callV C (As := [.int (xs (xl4 + (1 : Int32)).toNatClampNeg), .int (xs (xl4 + (2 : Int32)).toNatClampNeg)]) (rest := []) (c_X11_at G h al1 (xs (xl4 + (1 : Int32)).toNatClampNeg) (xs (xl4 + (2 : Int32)).toNatClampNeg) _ hw) yl_X11_at (gm4 (List.mem_of_getElem? (i := 94) rfl) rfl) (gm4 (List.mem_of_getElem? (i := 95) rfl) rfl) (ci := 10) rfl (by decide) (gm4 (List.mem_of_getElem? (i := 96) rfl) rfl) hob (by decide) rfl (Nat.le_of_ble_eq_true rfl) dL_law_450 rfl (kI fun hv27 iv28 hw => ?_)
      refine r_aload_n C dL_law_453 2 rfl ?_
      refine r_aload_n C dL_law_454 0 rfl ?_
      refine r_iload C dL_law_455 4 rfl ?_
      refine r_iconst (v := 1) C dL_law_457 (by decide) ?_
      refine r_iadd C dL_law_458 ?_
      refine l_sld C hX hbl hw.1 dL_law_459 ?_
      replace hw := hw.2
      refine r_aload_n C dL_law_460 0 rfl ?_
      refine r_iload C dL_law_461 4 rfl ?_
      refine r_iconst (v := 2) C dL_law_463 (by decide) ?_
      refine r_iadd C dL_law_464 ?_
      refine l_sld C hX hbl hw.1 dL_law_465 ?_
      replace hw := hw.2
      have hob := hw.1
      replace hw := hw.2
      refine r_callV C (As := [.int (xs (xl4 + (1 : Int32)).toNatClampNeg), .int (xs (xl4 + (2 : Int32)).toNatClampNeg)]) (rest := [.int iv28]) (c_X12_at G hv27 al2 (xs (xl4 + (1 : Int32)).toNatClampNeg) (xs (xl4 + (2 : Int32)).toNatClampNeg) _ hw) yl_X12_at (gm8 (List.mem_of_getElem? (i := 61) rfl) rfl) (gm8 (List.mem_of_getElem? (i := 62) rfl) rfl) (ci := 11) rfl (by decide) (gm8 (List.mem_of_getElem? (i := 63) rfl) rfl) hob (by decide) rfl (Nat.le_of_ble_eq_true rfl) dL_law_466 rfl (kI fun hv29 iv30 hw => ?_)
      refine r_icmp_eq C dL_law_469 1373 (by decide) (fun hc => ?_) (fun hc => ?_)
      · replace hw := hw.1 hc
        refine r_sub [0, 1, 2, 3, 4] rfl ?_
        exact tb_L_law_1373 C hr hlt hS hE hX hbl hK23 hw
      · replace hw := hw.2 hc
        refine r_iconst (v := 0) C dL_law_472 (by decide) ?_
        exact l_ret C hr dL_law_473 hw
    by_cases hc7 : ((xs xl4.toNatClampNeg) &&& (63 : Int32)) = 7
    · replace hw := hw.2.2.2.2.2.2.2.1 hc7
      refine r_tableIn C dL_law_40 (by rw [hc7]; decide) (by rw [hc7]; decide) (by rw [hc7]; rfl) 474 (by decide) ?_
      refine r_aload_n C dL_law_474 1 rfl ?_
      have hob := hw.1
      replace hw := hw.2
      refine r_callV C (As := []) (rest := []) (c_X11_lay G h al1  _ hw) yl_X11_lay (gm4 (List.mem_of_getElem? (i := 98) rfl) rfl) (gm4 (List.mem_of_getElem? (i := 99) rfl) rfl) (ci := 10) rfl (by decide) (gm4 (List.mem_of_getElem? (i := 100) rfl) rfl) hob (by decide) rfl (Nat.le_of_ble_eq_true rfl) dL_law_475 rfl (kI fun hv31 iv32 hw => ?_)
      refine r_aload_n C dL_law_478 2 rfl ?_
      have hob := hw.1
      replace hw := hw.2
      refine r_callV C (As := []) (rest := [.int iv32]) (c_X12_lay G hv31 al2  _ hw) yl_X12_lay (gm8 (List.mem_of_getElem? (i := 69) rfl) rfl) (gm8 (List.mem_of_getElem? (i := 70) rfl) rfl) (ci := 11) rfl (by decide) (gm8 (List.mem_of_getElem? (i := 71) rfl) rfl) hob (by decide) rfl (Nat.le_of_ble_eq_true rfl) dL_law_479 rfl (kI fun hv33 iv34 hw => ?_)
      refine r_icmp_eq C dL_law_482 1373 (by decide) (fun hc => ?_) (fun hc => ?_)
      · replace hw := hw.1 hc
        refine r_sub [0, 1, 2, 3, 4] rfl ?_
        exact tb_L_law_1373 C hr hlt hS hE hX hbl hK23 hw
      · replace hw := hw.2 hc
        refine r_iconst (v := 0) C dL_law_485 (by decide) ?_
        exact l_ret C hr dL_law_486 hw
    by_cases hc8 : ((xs xl4.toNatClampNeg) &&& (63 : Int32)) = 8
    · replace hw := hw.2.2.2.2.2.2.2.2.1 hc8
      refine r_tableIn C dL_law_40 (by rw [hc8]; decide) (by rw [hc8]; decide) (by rw [hc8]; rfl) 487 (by decide) ?_
      refine r_aload_n C dL_law_487 1 rfl ?_
      refine r_aload_n C dL_law_488 0 rfl ?_
      refine r_iload C dL_law_489 4 rfl ?_
      refine r_iconst (v := 1) C dL_law_491 (by decide) ?_
      refine r_iadd C dL_law_492 ?_
      refine l_sld C hX hbl hw.1 dL_law_493 ?_
      replace hw := hw.2
      have hob := hw.1
      replace hw := hw.2
      refine r_callV C (As := [.int (xs (xl4 + (1 : Int32)).toNatClampNeg)]) (rest := []) (c_X11_aground G h al1 (xs (xl4 + (1 : Int32)).toNatClampNeg) _ hw) yl_X11_aground (gm4 (List.mem_of_getElem? (i := 123) rfl) rfl) (gm4 (List.mem_of_getElem? (i := 124) rfl) rfl) (ci := 10) rfl (by decide) (gm4 (List.mem_of_getElem? (i := 125) rfl) rfl) hob (by decide) rfl (Nat.le_of_ble_eq_true rfl) dL_law_494 rfl (kI fun hv35 iv36 hw => ?_)
      refine r_aload_n C dL_law_497 2 rfl ?_
      refine r_aload_n C dL_law_498 0 rfl ?_
      refine r_iload C dL_law_499 4 rfl ?_
      refine r_iconst (v := 1) C dL_law_501 (by decide) ?_
      refine r_iadd C dL_law_502 ?_
      refine l_sld C hX hbl hw.1 dL_law_503 ?_
      replace hw := hw.2
      have hob := hw.1
      replace hw := hw.2
      refine r_callV C (As := [.int (xs (xl4 + (1 : Int32)).toNatClampNeg)]) (rest := [.int iv36]) (c_X12_aground G hv35 al2 (xs (xl4 + (1 : Int32)).toNatClampNeg) _ hw) yl_X12_aground (gm8 (List.mem_of_getElem? (i := 97) rfl) rfl) (gm8 (List.mem_of_getElem? (i := 98) rfl) rfl) (ci := 11) rfl (by decide) (gm8 (List.mem_of_getElem? (i := 99) rfl) rfl) hob (by decide) rfl (Nat.le_of_ble_eq_true rfl) dL_law_504 rfl (kI fun hv37 iv38 hw => ?_)
      refine r_icmp_eq C dL_law_507 1373 (by decide) (fun hc => ?_) (fun hc => ?_)
      · replace hw := hw.1 hc
        refine r_sub [0, 1, 2, 3, 4] rfl ?_
        exact tb_L_law_1373 C hr hlt hS hE hX hbl hK23 hw
      · replace hw := hw.2 hc
        refine r_iconst (v := 0) C dL_law_510 (by decide) ?_
        exact l_ret C hr dL_law_511 hw
    by_cases hc9 : ((xs xl4.toNatClampNeg) &&& (63 : Int32)) = 9
    · replace hw := hw.2.2.2.2.2.2.2.2.2.1 hc9
      refine r_tableIn C dL_law_40 (by rw [hc9]; decide) (by rw [hc9]; decide) (by rw [hc9]; rfl) 512 (by decide) ?_
      refine r_aload_n C dL_law_512 1 rfl ?_
      refine r_aload_n C dL_law_513 0 rfl ?_
      refine r_iload C dL_law_514 4 rfl ?_
      refine r_iconst (v := 1) C dL_law_516 (by decide) ?_
      refine r_iadd C dL_law_517 ?_
      refine l_sld C hX hbl hw.1 dL_law_518 ?_
      replace hw := hw.2
      have hob := hw.1
      replace hw := hw.2
      refine r_callV C (As := [.int (xs (xl4 + (1 : Int32)).toNatClampNeg)]) (rest := []) (c_X11_breaks G h al1 (xs (xl4 + (1 : Int32)).toNatClampNeg) _ hw) yl_X11_breaks (gm4 (List.mem_of_getElem? (i := 132) rfl) rfl) (gm4 (List.mem_of_getElem? (i := 133) rfl) rfl) (ci := 10) rfl (by decide) (gm4 (List.mem_of_getElem? (i := 134) rfl) rfl) hob (by decide) rfl (Nat.le_of_ble_eq_true rfl) dL_law_519 rfl (kI fun hv39 iv40 hw => ?_)
      refine r_aload_n C dL_law_522 2 rfl ?_
      refine r_aload_n C dL_law_523 0 rfl ?_
      refine r_iload C dL_law_524 4 rfl ?_
      refine r_iconst (v := 1) C dL_law_526 (by decide) ?_
      refine r_iadd C dL_law_527 ?_
      refine l_sld C hX hbl hw.1 dL_law_528 ?_
      replace hw := hw.2
      have hob := hw.1
      replace hw := hw.2
      refine r_callV C (As := [.int (xs (xl4 + (1 : Int32)).toNatClampNeg)]) (rest := [.int iv40]) (c_X12_breaks G hv39 al2 (xs (xl4 + (1 : Int32)).toNatClampNeg) _ hw) yl_X12_breaks (gm8 (List.mem_of_getElem? (i := 105) rfl) rfl) (gm8 (List.mem_of_getElem? (i := 106) rfl) rfl) (ci := 11) rfl (by decide) (gm8 (List.mem_of_getElem? (i := 107) rfl) rfl) hob (by decide) rfl (Nat.le_of_ble_eq_true rfl) dL_law_529 rfl (kI fun hv41 iv42 hw => ?_)
      refine r_icmp_eq C dL_law_532 1373 (by decide) (fun hc => ?_) (fun hc => ?_)
      · replace hw := hw.1 hc
        refine r_sub [0, 1, 2, 3, 4] rfl ?_
        exact tb_L_law_1373 C hr hlt hS hE hX hbl hK23 hw
      · replace hw := hw.2 hc
        refine r_iconst (v := 0) C dL_law_535 (by decide) ?_
        exact l_ret C hr dL_law_536 hw
    by_cases hc10 : ((xs xl4.toNatClampNeg) &&& (63 : Int32)) = 10
    · replace hw := hw.2.2.2.2.2.2.2.2.2.2.1 hc10
      refine r_tableIn C dL_law_40 (by rw [hc10]; decide) (by rw [hc10]; decide) (by rw [hc10]; rfl) 537 (by decide) ?_
      refine r_aload_n C dL_law_537 1 rfl ?_
      refine r_aload_n C dL_law_538 0 rfl ?_
      refine r_iload C dL_law_539 4 rfl ?_
      refine r_iconst (v := 1) C dL_law_541 (by decide) ?_
      refine r_iadd C dL_law_542 ?_
      refine l_sld C hX hbl hw.1 dL_law_543 ?_
      replace hw := hw.2
      have hob := hw.1
      replace hw := hw.2
      refine r_callV C (As := [.int (xs (xl4 + (1 : Int32)).toNatClampNeg)]) (rest := []) (c_X11_floats G h al1 (xs (xl4 + (1 : Int32)).toNatClampNeg) _ hw) yl_X11_floats (gm4 (List.mem_of_getElem? (i := 141) rfl) rfl) (gm4 (List.mem_of_getElem? (i := 142) rfl) rfl) (ci := 10) rfl (by decide) (gm4 (List.mem_of_getElem? (i := 143) rfl) rfl) hob (by decide) rfl (Nat.le_of_ble_eq_true rfl) dL_law_544 rfl (kI fun hv43 iv44 hw => ?_)
      refine r_aload_n C dL_law_547 2 rfl ?_
      refine r_aload_n C dL_law_548 0 rfl ?_
      refine r_iload C dL_law_549 4 rfl ?_
      refine r_iconst (v := 1) C dL_law_551 (by decide) ?_
      refine r_iadd C dL_law_552 ?_
      refine l_sld C hX hbl hw.1 dL_law_553 ?_
      replace hw := hw.2
      have hob := hw.1
      replace hw := hw.2
      refine r_callV C (As := [.int (xs (xl4 + (1 : Int32)).toNatClampNeg)]) (rest := [.int iv44]) (c_X12_floats G hv43 al2 (xs (xl4 + (1 : Int32)).toNatClampNeg) _ hw) yl_X12_floats (gm8 (List.mem_of_getElem? (i := 109) rfl) rfl) (gm8 (List.mem_of_getElem? (i := 110) rfl) rfl) (ci := 11) rfl (by decide) (gm8 (List.mem_of_getElem? (i := 111) rfl) rfl) hob (by decide) rfl (Nat.le_of_ble_eq_true rfl) dL_law_554 rfl (kI fun hv45 iv46 hw => ?_)
      refine r_icmp_eq C dL_law_557 1373 (by decide) (fun hc => ?_) (fun hc => ?_)
      · replace hw := hw.1 hc
        refine r_sub [0, 1, 2, 3, 4] rfl ?_
        exact tb_L_law_1373 C hr hlt hS hE hX hbl hK23 hw
      · replace hw := hw.2 hc
        refine r_iconst (v := 0) C dL_law_560 (by decide) ?_
        exact l_ret C hr dL_law_561 hw
    by_cases hc11 : ((xs xl4.toNatClampNeg) &&& (63 : Int32)) = 11
    · replace hw := hw.2.2.2.2.2.2.2.2.2.2.2.1 hc11
      refine r_tableIn C dL_law_40 (by rw [hc11]; decide) (by rw [hc11]; decide) (by rw [hc11]; rfl) 562 (by decide) ?_
      refine r_aload_n C dL_law_562 1 rfl ?_
      refine r_aload_n C dL_law_563 0 rfl ?_
      refine r_iload C dL_law_564 4 rfl ?_
      refine r_iconst (v := 1) C dL_law_566 (by decide) ?_
      refine r_iadd C dL_law_567 ?_
      refine l_sld C hX hbl hw.1 dL_law_568 ?_
      replace hw := hw.2
      refine r_aload_n C dL_law_569 0 rfl ?_
      refine r_iload C dL_law_570 4 rfl ?_
      refine r_iconst (v := 2) C dL_law_572 (by decide) ?_
      refine r_iadd C dL_law_573 ?_
      refine l_sld C hX hbl hw.1 dL_law_574 ?_
      replace hw := hw.2
      have hob := hw.1
      replace hw := hw.2
      refine r_callV C (As := [.int (xs (xl4 + (1 : Int32)).toNatClampNeg), .int (xs (xl4 + (2 : Int32)).toNatClampNeg)]) (rest := []) (c_X11_gap G h al1 (xs (xl4 + (1 : Int32)).toNatClampNeg) (xs (xl4 + (2 : Int32)).toNatClampNeg) _ hw) yl_X11_gap (gm4 (List.mem_of_getElem? (i := 154) rfl) rfl) (gm4 (List.mem_of_getElem? (i := 155) rfl) rfl) (ci := 10) rfl (by decide) (gm4 (List.mem_of_getElem? (i := 156) rfl) rfl) hob (by decide) rfl (Nat.le_of_ble_eq_true rfl) dL_law_575 rfl (kI fun hv47 iv48 hw => ?_)
      refine r_aload_n C dL_law_578 2 rfl ?_
      refine r_aload_n C dL_law_579 0 rfl ?_
      refine r_iload C dL_law_580 4 rfl ?_
      refine r_iconst (v := 1) C dL_law_582 (by decide) ?_
      refine r_iadd C dL_law_583 ?_
      refine l_sld C hX hbl hw.1 dL_law_584 ?_
      replace hw := hw.2
      refine r_aload_n C dL_law_585 0 rfl ?_
      refine r_iload C dL_law_586 4 rfl ?_
      refine r_iconst (v := 2) C dL_law_588 (by decide) ?_
      refine r_iadd C dL_law_589 ?_
      refine l_sld C hX hbl hw.1 dL_law_590 ?_
      replace hw := hw.2
      have hob := hw.1
      replace hw := hw.2
      refine r_callV C (As := [.int (xs (xl4 + (1 : Int32)).toNatClampNeg), .int (xs (xl4 + (2 : Int32)).toNatClampNeg)]) (rest := [.int iv48]) (c_X12_gap G hv47 al2 (xs (xl4 + (1 : Int32)).toNatClampNeg) (xs (xl4 + (2 : Int32)).toNatClampNeg) _ hw) yl_X12_gap (gm8 (List.mem_of_getElem? (i := 117) rfl) rfl) (gm8 (List.mem_of_getElem? (i := 118) rfl) rfl) (ci := 11) rfl (by decide) (gm8 (List.mem_of_getElem? (i := 119) rfl) rfl) hob (by decide) rfl (Nat.le_of_ble_eq_true rfl) dL_law_591 rfl (kI fun hv49 iv50 hw => ?_)
      refine r_icmp_eq C dL_law_594 1373 (by decide) (fun hc => ?_) (fun hc => ?_)
      · replace hw := hw.1 hc
        refine r_sub [0, 1, 2, 3, 4] rfl ?_
        exact tb_L_law_1373 C hr hlt hS hE hX hbl hK23 hw
      · replace hw := hw.2 hc
        refine r_iconst (v := 0) C dL_law_597 (by decide) ?_
        exact l_ret C hr dL_law_598 hw
    by_cases hc12 : ((xs xl4.toNatClampNeg) &&& (63 : Int32)) = 12
    · replace hw := hw.2.2.2.2.2.2.2.2.2.2.2.2.1 hc12
      refine r_tableIn C dL_law_40 (by rw [hc12]; decide) (by rw [hc12]; decide) (by rw [hc12]; rfl) 599 (by decide) ?_
      refine r_aload_n C dL_law_599 1 rfl ?_
      refine r_aload_n C dL_law_600 0 rfl ?_
      refine r_iload C dL_law_601 4 rfl ?_
      refine r_iconst (v := 1) C dL_law_603 (by decide) ?_
      refine r_iadd C dL_law_604 ?_
      refine l_sld C hX hbl hw.1 dL_law_605 ?_
      replace hw := hw.2
      refine r_aload_n C dL_law_606 0 rfl ?_
      refine r_iload C dL_law_607 4 rfl ?_
      refine r_iconst (v := 2) C dL_law_609 (by decide) ?_
      refine r_iadd C dL_law_610 ?_
      refine l_sld C hX hbl hw.1 dL_law_611 ?_
      replace hw := hw.2
      refine r_aload_n C dL_law_612 0 rfl ?_
      refine r_iload C dL_law_613 4 rfl ?_
      refine r_iconst (v := 3) C dL_law_615 (by decide) ?_
      refine r_iadd C dL_law_616 ?_
      refine l_sld C hX hbl hw.1 dL_law_617 ?_
      replace hw := hw.2
      have hob := hw.1
      replace hw := hw.2
      refine r_callV C (As := [.int (xs (xl4 + (1 : Int32)).toNatClampNeg), .int (xs (xl4 + (2 : Int32)).toNatClampNeg), .int (xs (xl4 + (3 : Int32)).toNatClampNeg)]) (rest := []) (c_X11_move G h al1 (xs (xl4 + (1 : Int32)).toNatClampNeg) (xs (xl4 + (2 : Int32)).toNatClampNeg) (xs (xl4 + (3 : Int32)).toNatClampNeg) _ hw) yl_X11_move (gm4 (List.mem_of_getElem? (i := 159) rfl) rfl) (gm4 (List.mem_of_getElem? (i := 160) rfl) rfl) (ci := 10) rfl (by decide) (gm4 (List.mem_of_getElem? (i := 161) rfl) rfl) hob (by decide) rfl (Nat.le_of_ble_eq_true rfl) dL_law_618 rfl (kI fun hv51 iv52 hw => ?_)
      refine r_aload_n C dL_law_621 2 rfl ?_
      refine r_aload_n C dL_law_622 0 rfl ?_
      refine r_iload C dL_law_623 4 rfl ?_
      refine r_iconst (v := 1) C dL_law_625 (by decide) ?_
      refine r_iadd C dL_law_626 ?_
      refine l_sld C hX hbl hw.1 dL_law_627 ?_
      replace hw := hw.2
      refine r_aload_n C dL_law_628 0 rfl ?_
      refine r_iload C dL_law_629 4 rfl ?_
      refine r_iconst (v := 2) C dL_law_631 (by decide) ?_
      refine r_iadd C dL_law_632 ?_
      refine l_sld C hX hbl hw.1 dL_law_633 ?_
      replace hw := hw.2
      refine r_aload_n C dL_law_634 0 rfl ?_
      refine r_iload C dL_law_635 4 rfl ?_
      refine r_iconst (v := 3) C dL_law_637 (by decide) ?_
      refine r_iadd C dL_law_638 ?_
      refine l_sld C hX hbl hw.1 dL_law_639 ?_
      replace hw := hw.2
      have hob := hw.1
      replace hw := hw.2
      refine r_callV C (As := [.int (xs (xl4 + (1 : Int32)).toNatClampNeg), .int (xs (xl4 + (2 : Int32)).toNatClampNeg), .int (xs (xl4 + (3 : Int32)).toNatClampNeg)]) (rest := [.int iv52]) (c_X12_move G hv51 al2 (xs (xl4 + (1 : Int32)).toNatClampNeg) (xs (xl4 + (2 : Int32)).toNatClampNeg) (xs (xl4 + (3 : Int32)).toNatClampNeg) _ hw) yl_X12_move (gm8 (List.mem_of_getElem? (i := 121) rfl) rfl) (gm8 (List.mem_of_getElem? (i := 122) rfl) rfl) (ci := 11) rfl (by decide) (gm8 (List.mem_of_getElem? (i := 123) rfl) rfl) hob (by decide) rfl (Nat.le_of_ble_eq_true rfl) dL_law_640 rfl (kI fun hv53 iv54 hw => ?_)
      refine r_icmp_eq C dL_law_643 1373 (by decide) (fun hc => ?_) (fun hc => ?_)
      · replace hw := hw.1 hc
        refine r_sub [0, 1, 2, 3, 4] rfl ?_
        exact tb_L_law_1373 C hr hlt hS hE hX hbl hK23 hw
      · replace hw := hw.2 hc
        refine r_iconst (v := 0) C dL_law_646 (by decide) ?_
        exact l_ret C hr dL_law_647 hw
    by_cases hc13 : ((xs xl4.toNatClampNeg) &&& (63 : Int32)) = 13
    · replace hw := hw.2.2.2.2.2.2.2.2.2.2.2.2.2.1 hc13
      refine r_tableIn C dL_law_40 (by rw [hc13]; decide) (by rw [hc13]; decide) (by rw [hc13]; rfl) 648 (by decide) ?_
      refine r_aload_n C dL_law_648 1 rfl ?_
      refine r_aload_n C dL_law_649 0 rfl ?_
      refine r_iload C dL_law_650 4 rfl ?_
      refine r_iconst (v := 1) C dL_law_652 (by decide) ?_
      refine r_iadd C dL_law_653 ?_
      refine l_sld C hX hbl hw.1 dL_law_654 ?_
      replace hw := hw.2
      have hob := hw.1
      replace hw := hw.2
      refine r_callV C (As := [.int (xs (xl4 + (1 : Int32)).toNatClampNeg)]) (rest := []) (c_X11_wants G h al1 (xs (xl4 + (1 : Int32)).toNatClampNeg) _ hw) yl_X11_wants (gm4 (List.mem_of_getElem? (i := 190) rfl) rfl) (gm4 (List.mem_of_getElem? (i := 191) rfl) rfl) (ci := 10) rfl (by decide) (gm4 (List.mem_of_getElem? (i := 192) rfl) rfl) hob (by decide) rfl (Nat.le_of_ble_eq_true rfl) dL_law_655 rfl (kI fun hv55 iv56 hw => ?_)
      refine r_aload_n C dL_law_658 2 rfl ?_
      refine r_aload_n C dL_law_659 0 rfl ?_
      refine r_iload C dL_law_660 4 rfl ?_
      refine r_iconst (v := 1) C dL_law_662 (by decide) ?_
      refine r_iadd C dL_law_663 ?_
      refine l_sld C hX hbl hw.1 dL_law_664 ?_
      replace hw := hw.2
      have hob := hw.1
      replace hw := hw.2
      refine r_callV C (As := [.int (xs (xl4 + (1 : Int32)).toNatClampNeg)]) (rest := [.int iv56]) (c_X12_wants G hv55 al2 (xs (xl4 + (1 : Int32)).toNatClampNeg) _ hw) yl_X12_wants (gm8 (List.mem_of_getElem? (i := 137) rfl) rfl) (gm8 (List.mem_of_getElem? (i := 138) rfl) rfl) (ci := 11) rfl (by decide) (gm8 (List.mem_of_getElem? (i := 139) rfl) rfl) hob (by decide) rfl (Nat.le_of_ble_eq_true rfl) dL_law_665 rfl (kI fun hv57 iv58 hw => ?_)
      refine r_icmp_eq C dL_law_668 1373 (by decide) (fun hc => ?_) (fun hc => ?_)
      · replace hw := hw.1 hc
        refine r_sub [0, 1, 2, 3, 4] rfl ?_
        exact tb_L_law_1373 C hr hlt hS hE hX hbl hK23 hw
      · replace hw := hw.2 hc
        refine r_iconst (v := 0) C dL_law_671 (by decide) ?_
        exact l_ret C hr dL_law_672 hw
    by_cases hc14 : ((xs xl4.toNatClampNeg) &&& (63 : Int32)) = 14
    · replace hw := hw.2.2.2.2.2.2.2.2.2.2.2.2.2.2.1 hc14
      refine r_tableIn C dL_law_40 (by rw [hc14]; decide) (by rw [hc14]; decide) (by rw [hc14]; rfl) 673 (by decide) ?_
      refine r_aload_n C dL_law_673 1 rfl ?_
      have hob := hw.1
      replace hw := hw.2
      refine r_callV C (As := []) (rest := []) (c_X11_plan G h al1  _ hw) yl_X11_plan (gm4 (List.mem_of_getElem? (i := 224) rfl) rfl) (gm4 (List.mem_of_getElem? (i := 225) rfl) rfl) (ci := 10) rfl (by decide) (gm4 (List.mem_of_getElem? (i := 226) rfl) rfl) hob (by decide) rfl (Nat.le_of_ble_eq_true rfl) dL_law_674 rfl (kI fun hv59 iv60 hw => ?_)
      refine r_aload_n C dL_law_677 2 rfl ?_
      have hob := hw.1
      replace hw := hw.2
      refine r_callV C (As := []) (rest := [.int iv60]) (c_X12_plan G hv59 al2  _ hw) yl_X12_plan (gm8 (List.mem_of_getElem? (i := 161) rfl) rfl) (gm8 (List.mem_of_getElem? (i := 162) rfl) rfl) (ci := 11) rfl (by decide) (gm8 (List.mem_of_getElem? (i := 163) rfl) rfl) hob (by decide) rfl (Nat.le_of_ble_eq_true rfl) dL_law_678 rfl (kI fun hv61 iv62 hw => ?_)
      refine r_icmp_eq C dL_law_681 1373 (by decide) (fun hc => ?_) (fun hc => ?_)
      · replace hw := hw.1 hc
        refine r_sub [0, 1, 2, 3, 4] rfl ?_
        exact tb_L_law_1373 C hr hlt hS hE hX hbl hK23 hw
      · replace hw := hw.2 hc
        refine r_iconst (v := 0) C dL_law_684 (by decide) ?_
        exact l_ret C hr dL_law_685 hw
    by_cases hc15 : ((xs xl4.toNatClampNeg) &&& (63 : Int32)) = 15
    · replace hw := hw.2.2.2.2.2.2.2.2.2.2.2.2.2.2.2.1 hc15
      refine r_tableIn C dL_law_40 (by rw [hc15]; decide) (by rw [hc15]; decide) (by rw [hc15]; rfl) 686 (by decide) ?_
      refine r_aload_n C dL_law_686 1 rfl ?_
      refine r_aload_n C dL_law_687 0 rfl ?_
      refine r_iload C dL_law_688 4 rfl ?_
      refine r_iconst (v := 1) C dL_law_690 (by decide) ?_
      refine r_iadd C dL_law_691 ?_
      refine l_sld C hX hbl hw.1 dL_law_692 ?_
      replace hw := hw.2
      refine r_aload_n C dL_law_693 0 rfl ?_
      refine r_iload C dL_law_694 4 rfl ?_
      refine r_iconst (v := 2) C dL_law_696 (by decide) ?_
      refine r_iadd C dL_law_697 ?_
      refine l_sld C hX hbl hw.1 dL_law_698 ?_
      replace hw := hw.2
      refine r_aload_n C dL_law_699 3 rfl ?_
      refine l_callW (n := 4) C hlt hE (As := [.ref (G.1 + al1), .int (xs (xl4 + (1 : Int32)).toNatClampNeg), .int (xs (xl4 + (2 : Int32)).toNatClampNeg), .ref (G.1 + al3)]) (rest := []) (c_L_act G h al1 (xs (xl4 + (1 : Int32)).toNatClampNeg) (xs (xl4 + (2 : Int32)).toNatClampNeg) al3 _ hw) cw_L_act (gm1 (List.mem_of_getElem? (i := 0) rfl) rfl) (gm6 (List.mem_of_getElem? (i := 170) rfl) rfl) (gm6 (List.mem_of_getElem? (i := 171) rfl) rfl) ⟨by decide, by decide, by decide +kernel⟩ (by decide) rfl (Nat.le_of_ble_eq_true rfl) dL_law_700 rfl (kI fun hv63 iv64 hw => ?_)
      refine r_istore C dL_law_703 [(5, .int iv64), (0, .ref bb), (1, .ref (G.1 + al1)), (2, .ref (G.1 + al2)), (3, .ref (G.1 + al3)), (4, .int xl4)] (by decide) rfl ?_
      refine r_aload_n C dL_law_705 3 rfl ?_
      refine r_aload_n C dL_law_706 1 rfl ?_
      refine r_iload C dL_law_707 5 rfl ?_
      refine r_iconst (v := 1) C dL_law_709 (by decide) ?_
      refine r_iadd C dL_law_710 ?_
      refine l_sld C hX hbl hw.1 dL_law_711 ?_
      replace hw := hw.2
      refine r_aload_n C dL_law_712 1 rfl ?_
      refine r_iload C dL_law_713 5 rfl ?_
      refine r_iconst (v := 2) C dL_law_715 (by decide) ?_
      refine r_iadd C dL_law_716 ?_
      refine l_sld C hX hbl hw.1 dL_law_717 ?_
      replace hw := hw.2
      have hob := hw.1
      replace hw := hw.2
      refine r_callV C (As := [.int (xs (xl4 + (1 : Int32)).toNatClampNeg), .int (xs (xl4 + (2 : Int32)).toNatClampNeg)]) (rest := []) (c_X12_act_ G hv63 al2 (xs (xl4 + (1 : Int32)).toNatClampNeg) (xs (xl4 + (2 : Int32)).toNatClampNeg) _ hw) yl_X12_act_ (gm8 (List.mem_of_getElem? (i := 169) rfl) rfl) (gm8 (List.mem_of_getElem? (i := 170) rfl) rfl) (ci := 11) rfl (by decide) (gm8 (List.mem_of_getElem? (i := 171) rfl) rfl) hob (by decide) rfl (Nat.le_of_ble_eq_true rfl) dL_law_718 rfl (kI fun hv65 iv66 hw => ?_)
      refine r_istore C dL_law_721 [(6, .int iv66), (5, .int iv64), (0, .ref bb), (1, .ref (G.1 + al1)), (2, .ref (G.1 + al2)), (3, .ref (G.1 + al3)), (4, .int xl4)] (by decide) rfl ?_
      refine r_aload_n C dL_law_723 4 rfl ?_
      have hob := hw.1
      replace hw := hw.2
      refine r_callV C (As := []) (rest := []) (c_X12_thrown G hv65 al2  _ hw) yl_X12_thrown (gm6 (List.mem_of_getElem? (i := 177) rfl) rfl) (gm6 (List.mem_of_getElem? (i := 178) rfl) rfl) (ci := 11) rfl (by decide) (gm6 (List.mem_of_getElem? (i := 179) rfl) rfl) hob (by decide) rfl (Nat.le_of_ble_eq_true rfl) dL_law_724 rfl (kI fun hv67 iv68 hw => ?_)
      refine r_iload C dL_law_727 1 rfl ?_
      refine r_icmp_eq C dL_law_729 734 (by decide) (fun hc => ?_) (fun hc => ?_)
      · replace hw := hw.1 hc
        refine r_iload C dL_law_734 1 rfl ?_
        refine r_if_ne C dL_law_736 751 (by decide) (fun hc => ?_) (fun hc => ?_)
        · replace hw := hw.1 hc
          refine r_sub [2, 3, 4, 5, 6] rfl ?_
          exact tb_L_law_751 C hr hlt hS hE hX hbl hK23 hw
        · replace hw := hw.2 hc
          refine r_aload_n C dL_law_739 5 rfl ?_
          refine r_iconst (v := 0) C dL_law_740 (by decide) ?_
          refine r_laload C hw.1 hw.2.1 dL_law_741 ?_
          replace hw := hw.2.2
          refine r_iload C dL_law_742 0 rfl ?_
          refine r_i2l C dL_law_744 ?_
          refine r_lcmp C dL_law_745 ?_
          refine r_if_eq C dL_law_746 751 (by decide) (fun hc => ?_) (fun hc => ?_)
          · replace hw := hw.1 hc
            refine r_sub [2, 3, 4, 5, 6] rfl ?_
            exact tb_L_law_751 C hr hlt hS hE hX hbl hK23 hw
          · replace hw := hw.2 hc
            refine r_iconst (v := 0) C dL_law_749 (by decide) ?_
            exact l_ret C hr dL_law_750 hw
      · replace hw := hw.2 hc
        refine r_iconst (v := 0) C dL_law_732 (by decide) ?_
        exact l_ret C hr dL_law_733 hw
    by_cases hc16 : ((xs xl4.toNatClampNeg) &&& (63 : Int32)) = 16
    · replace hw := hw.2.2.2.2.2.2.2.2.2.2.2.2.2.2.2.2.1 hc16
      refine r_tableIn C dL_law_40 (by rw [hc16]; decide) (by rw [hc16]; decide) (by rw [hc16]; rfl) 754 (by decide) ?_
      refine r_aload_n C dL_law_754 1 rfl ?_
      refine r_aload_n C dL_law_755 0 rfl ?_
      refine r_iload C dL_law_756 4 rfl ?_
      refine r_iconst (v := 1) C dL_law_758 (by decide) ?_
      refine r_iadd C dL_law_759 ?_
      refine l_sld C hX hbl hw.1 dL_law_760 ?_
      replace hw := hw.2
      have hob := hw.1
      replace hw := hw.2
      refine r_callV C (As := [.int (xs (xl4 + (1 : Int32)).toNatClampNeg)]) (rest := []) (c_X11_judge G h al1 (xs (xl4 + (1 : Int32)).toNatClampNeg) _ hw) yl_X11_judge (gm5 (List.mem_of_getElem? (i := 22) rfl) rfl) (gm5 (List.mem_of_getElem? (i := 23) rfl) rfl) (ci := 10) rfl (by decide) (gm5 (List.mem_of_getElem? (i := 24) rfl) rfl) hob (by decide) rfl (Nat.le_of_ble_eq_true rfl) dL_law_761 rfl (kI fun hv69 iv70 hw => ?_)
      refine r_aload_n C dL_law_764 2 rfl ?_
      refine r_aload_n C dL_law_765 0 rfl ?_
      refine r_iload C dL_law_766 4 rfl ?_
      refine r_iconst (v := 1) C dL_law_768 (by decide) ?_
      refine r_iadd C dL_law_769 ?_
      refine l_sld C hX hbl hw.1 dL_law_770 ?_
      replace hw := hw.2
      have hob := hw.1
      replace hw := hw.2
      refine r_callV C (As := [.int (xs (xl4 + (1 : Int32)).toNatClampNeg)]) (rest := [.int iv70]) (c_X12_judge G hv69 al2 (xs (xl4 + (1 : Int32)).toNatClampNeg) _ hw) yl_X12_judge (gm8 (List.mem_of_getElem? (i := 173) rfl) rfl) (gm8 (List.mem_of_getElem? (i := 174) rfl) rfl) (ci := 11) rfl (by decide) (gm8 (List.mem_of_getElem? (i := 175) rfl) rfl) hob (by decide) rfl (Nat.le_of_ble_eq_true rfl) dL_law_771 rfl (kI fun hv71 iv72 hw => ?_)
      refine r_icmp_eq C dL_law_774 1373 (by decide) (fun hc => ?_) (fun hc => ?_)
      · replace hw := hw.1 hc
        refine r_sub [0, 1, 2, 3, 4] rfl ?_
        exact tb_L_law_1373 C hr hlt hS hE hX hbl hK23 hw
      · replace hw := hw.2 hc
        refine r_iconst (v := 0) C dL_law_777 (by decide) ?_
        exact l_ret C hr dL_law_778 hw
    by_cases hc17 : ((xs xl4.toNatClampNeg) &&& (63 : Int32)) = 17
    · replace hw := hw.2.2.2.2.2.2.2.2.2.2.2.2.2.2.2.2.2.1 hc17
      refine r_tableIn C dL_law_40 (by rw [hc17]; decide) (by rw [hc17]; decide) (by rw [hc17]; rfl) 779 (by decide) ?_
      refine r_aload_n C dL_law_779 1 rfl ?_
      refine r_aload_n C dL_law_780 0 rfl ?_
      refine r_iload C dL_law_781 4 rfl ?_
      refine r_iconst (v := 1) C dL_law_783 (by decide) ?_
      refine r_iadd C dL_law_784 ?_
      refine l_sld C hX hbl hw.1 dL_law_785 ?_
      replace hw := hw.2
      have hob := hw.1
      replace hw := hw.2
      refine r_callV C (As := [.int (xs (xl4 + (1 : Int32)).toNatClampNeg)]) (rest := []) (c_X11_judged G h al1 (xs (xl4 + (1 : Int32)).toNatClampNeg) _ hw) yl_X11_judged (gm5 (List.mem_of_getElem? (i := 52) rfl) rfl) (gm5 (List.mem_of_getElem? (i := 53) rfl) rfl) (ci := 10) rfl (by decide) (gm5 (List.mem_of_getElem? (i := 54) rfl) rfl) hob (by decide) rfl (Nat.le_of_ble_eq_true rfl) dL_law_786 rfl (kI fun hv73 iv74 hw => ?_)
      refine r_aload_n C dL_law_789 2 rfl ?_
      refine r_aload_n C dL_law_790 0 rfl ?_
      refine r_iload C dL_law_791 4 rfl ?_
      refine r_iconst (v := 1) C dL_law_793 (by decide) ?_
      refine r_iadd C dL_law_794 ?_
      refine l_sld C hX hbl hw.1 dL_law_795 ?_
      replace hw := hw.2
      have hob := hw.1
      replace hw := hw.2
      refine r_callV C (As := [.int (xs (xl4 + (1 : Int32)).toNatClampNeg)]) (rest := [.int iv74]) (c_X12_judged G hv73 al2 (xs (xl4 + (1 : Int32)).toNatClampNeg) _ hw) yl_X12_judged (gm8 (List.mem_of_getElem? (i := 192) rfl) rfl) (gm8 (List.mem_of_getElem? (i := 193) rfl) rfl) (ci := 11) rfl (by decide) (gm8 (List.mem_of_getElem? (i := 194) rfl) rfl) hob (by decide) rfl (Nat.le_of_ble_eq_true rfl) dL_law_796 rfl (kI fun hv75 iv76 hw => ?_)
      refine r_icmp_eq C dL_law_799 1373 (by decide) (fun hc => ?_) (fun hc => ?_)
      · replace hw := hw.1 hc
        refine r_sub [0, 1, 2, 3, 4] rfl ?_
        exact tb_L_law_1373 C hr hlt hS hE hX hbl hK23 hw
      · replace hw := hw.2 hc
        refine r_iconst (v := 0) C dL_law_802 (by decide) ?_
        exact l_ret C hr dL_law_803 hw
    by_cases hc18 : ((xs xl4.toNatClampNeg) &&& (63 : Int32)) = 18
    · replace hw := hw.2.2.2.2.2.2.2.2.2.2.2.2.2.2.2.2.2.2.1 hc18
      refine r_tableIn C dL_law_40 (by rw [hc18]; decide) (by rw [hc18]; decide) (by rw [hc18]; rfl) 804 (by decide) ?_
      refine r_aload_n C dL_law_804 1 rfl ?_
      refine r_aload_n C dL_law_805 0 rfl ?_
      refine r_iload C dL_law_806 4 rfl ?_
      refine r_iconst (v := 1) C dL_law_808 (by decide) ?_
      refine r_iadd C dL_law_809 ?_
      refine l_sld C hX hbl hw.1 dL_law_810 ?_
      replace hw := hw.2
      refine r_aload_n C dL_law_811 0 rfl ?_
      refine r_iload C dL_law_812 4 rfl ?_
      refine r_iconst (v := 2) C dL_law_814 (by decide) ?_
      refine r_iadd C dL_law_815 ?_
      refine l_sld C hX hbl hw.1 dL_law_816 ?_
      replace hw := hw.2
      have hob := hw.1
      replace hw := hw.2
      refine r_callV C (As := [.int (xs (xl4 + (1 : Int32)).toNatClampNeg), .int (xs (xl4 + (2 : Int32)).toNatClampNeg)]) (rest := []) (c_X11_judgedAt G h al1 (xs (xl4 + (1 : Int32)).toNatClampNeg) (xs (xl4 + (2 : Int32)).toNatClampNeg) _ hw) yl_X11_judgedAt (gm5 (List.mem_of_getElem? (i := 56) rfl) rfl) (gm5 (List.mem_of_getElem? (i := 57) rfl) rfl) (ci := 10) rfl (by decide) (gm5 (List.mem_of_getElem? (i := 58) rfl) rfl) hob (by decide) rfl (Nat.le_of_ble_eq_true rfl) dL_law_817 rfl (kI fun hv77 iv78 hw => ?_)
      refine r_aload_n C dL_law_820 2 rfl ?_
      refine r_aload_n C dL_law_821 0 rfl ?_
      refine r_iload C dL_law_822 4 rfl ?_
      refine r_iconst (v := 1) C dL_law_824 (by decide) ?_
      refine r_iadd C dL_law_825 ?_
      refine l_sld C hX hbl hw.1 dL_law_826 ?_
      replace hw := hw.2
      refine r_aload_n C dL_law_827 0 rfl ?_
      refine r_iload C dL_law_828 4 rfl ?_
      refine r_iconst (v := 2) C dL_law_830 (by decide) ?_
      refine r_iadd C dL_law_831 ?_
      refine l_sld C hX hbl hw.1 dL_law_832 ?_
      replace hw := hw.2
      have hob := hw.1
      replace hw := hw.2
      refine r_callV C (As := [.int (xs (xl4 + (1 : Int32)).toNatClampNeg), .int (xs (xl4 + (2 : Int32)).toNatClampNeg)]) (rest := [.int iv78]) (c_X12_judgedAt G hv77 al2 (xs (xl4 + (1 : Int32)).toNatClampNeg) (xs (xl4 + (2 : Int32)).toNatClampNeg) _ hw) yl_X12_judgedAt (gm8 (List.mem_of_getElem? (i := 196) rfl) rfl) (gm8 (List.mem_of_getElem? (i := 197) rfl) rfl) (ci := 11) rfl (by decide) (gm8 (List.mem_of_getElem? (i := 198) rfl) rfl) hob (by decide) rfl (Nat.le_of_ble_eq_true rfl) dL_law_833 rfl (kI fun hv79 iv80 hw => ?_)
      refine r_icmp_eq C dL_law_836 1373 (by decide) (fun hc => ?_) (fun hc => ?_)
      · replace hw := hw.1 hc
        refine r_sub [0, 1, 2, 3, 4] rfl ?_
        exact tb_L_law_1373 C hr hlt hS hE hX hbl hK23 hw
      · replace hw := hw.2 hc
        refine r_iconst (v := 0) C dL_law_839 (by decide) ?_
        exact l_ret C hr dL_law_840 hw
    by_cases hc19 : ((xs xl4.toNatClampNeg) &&& (63 : Int32)) = 19
    · replace hw := hw.2.2.2.2.2.2.2.2.2.2.2.2.2.2.2.2.2.2.2.1 hc19
      refine r_tableIn C dL_law_40 (by rw [hc19]; decide) (by rw [hc19]; decide) (by rw [hc19]; rfl) 841 (by decide) ?_
      refine r_aload_n C dL_law_841 1 rfl ?_
      refine r_aload_n C dL_law_842 0 rfl ?_
      refine r_iload C dL_law_843 4 rfl ?_
      refine r_iconst (v := 1) C dL_law_845 (by decide) ?_
      refine r_iadd C dL_law_846 ?_
      refine l_sld C hX hbl hw.1 dL_law_847 ?_
      replace hw := hw.2
      have hob := hw.1
      replace hw := hw.2
      refine r_callV C (As := [.int (xs (xl4 + (1 : Int32)).toNatClampNeg)]) (rest := []) (c_X11_tooMany G h al1 (xs (xl4 + (1 : Int32)).toNatClampNeg) _ hw) yl_X11_tooMany (gm5 (List.mem_of_getElem? (i := 63) rfl) rfl) (gm5 (List.mem_of_getElem? (i := 64) rfl) rfl) (ci := 10) rfl (by decide) (gm5 (List.mem_of_getElem? (i := 65) rfl) rfl) hob (by decide) rfl (Nat.le_of_ble_eq_true rfl) dL_law_848 rfl (kI fun hv81 iv82 hw => ?_)
      refine r_aload_n C dL_law_851 2 rfl ?_
      refine r_aload_n C dL_law_852 0 rfl ?_
      refine r_iload C dL_law_853 4 rfl ?_
      refine r_iconst (v := 1) C dL_law_855 (by decide) ?_
      refine r_iadd C dL_law_856 ?_
      refine l_sld C hX hbl hw.1 dL_law_857 ?_
      replace hw := hw.2
      have hob := hw.1
      replace hw := hw.2
      refine r_callV C (As := [.int (xs (xl4 + (1 : Int32)).toNatClampNeg)]) (rest := [.int iv82]) (c_X12_tooMany G hv81 al2 (xs (xl4 + (1 : Int32)).toNatClampNeg) _ hw) yl_X12_tooMany (gm8 (List.mem_of_getElem? (i := 200) rfl) rfl) (gm8 (List.mem_of_getElem? (i := 201) rfl) rfl) (ci := 11) rfl (by decide) (gm8 (List.mem_of_getElem? (i := 202) rfl) rfl) hob (by decide) rfl (Nat.le_of_ble_eq_true rfl) dL_law_858 rfl (kI fun hv83 iv84 hw => ?_)
      refine r_icmp_eq C dL_law_861 1373 (by decide) (fun hc => ?_) (fun hc => ?_)
      · replace hw := hw.1 hc
        refine r_sub [0, 1, 2, 3, 4] rfl ?_
        exact tb_L_law_1373 C hr hlt hS hE hX hbl hK23 hw
      · replace hw := hw.2 hc
        refine r_iconst (v := 0) C dL_law_864 (by decide) ?_
        exact l_ret C hr dL_law_865 hw
    by_cases hc20 : ((xs xl4.toNatClampNeg) &&& (63 : Int32)) = 20
    · replace hw := hw.2.2.2.2.2.2.2.2.2.2.2.2.2.2.2.2.2.2.2.2.1 hc20
      refine r_tableIn C dL_law_40 (by rw [hc20]; decide) (by rw [hc20]; decide) (by rw [hc20]; rfl) 866 (by decide) ?_
      refine r_aload_n C dL_law_866 1 rfl ?_
      refine r_aload_n C dL_law_867 0 rfl ?_
      refine r_iload C dL_law_868 4 rfl ?_
      refine r_iconst (v := 1) C dL_law_870 (by decide) ?_
      refine r_iadd C dL_law_871 ?_
      refine l_sld C hX hbl hw.1 dL_law_872 ?_
      replace hw := hw.2
      have hob := hw.1
      replace hw := hw.2
      refine r_callV C (As := [.int (xs (xl4 + (1 : Int32)).toNatClampNeg)]) (rest := []) (c_X11_instead G h al1 (xs (xl4 + (1 : Int32)).toNatClampNeg) _ hw) yl_X11_instead (gm5 (List.mem_of_getElem? (i := 72) rfl) rfl) (gm5 (List.mem_of_getElem? (i := 73) rfl) rfl) (ci := 10) rfl (by decide) (gm5 (List.mem_of_getElem? (i := 74) rfl) rfl) hob (by decide) rfl (Nat.le_of_ble_eq_true rfl) dL_law_873 rfl (kI fun hv85 iv86 hw => ?_)
      refine r_aload_n C dL_law_876 2 rfl ?_
      refine r_aload_n C dL_law_877 0 rfl ?_
      refine r_iload C dL_law_878 4 rfl ?_
      refine r_iconst (v := 1) C dL_law_880 (by decide) ?_
      refine r_iadd C dL_law_881 ?_
      refine l_sld C hX hbl hw.1 dL_law_882 ?_
      replace hw := hw.2
      have hob := hw.1
      replace hw := hw.2
      refine r_callV C (As := [.int (xs (xl4 + (1 : Int32)).toNatClampNeg)]) (rest := [.int iv86]) (c_X12_instead G hv85 al2 (xs (xl4 + (1 : Int32)).toNatClampNeg) _ hw) yl_X12_instead (gm8 (List.mem_of_getElem? (i := 204) rfl) rfl) (gm8 (List.mem_of_getElem? (i := 205) rfl) rfl) (ci := 11) rfl (by decide) (gm8 (List.mem_of_getElem? (i := 206) rfl) rfl) hob (by decide) rfl (Nat.le_of_ble_eq_true rfl) dL_law_883 rfl (kI fun hv87 iv88 hw => ?_)
      refine r_icmp_eq C dL_law_886 1373 (by decide) (fun hc => ?_) (fun hc => ?_)
      · replace hw := hw.1 hc
        refine r_sub [0, 1, 2, 3, 4] rfl ?_
        exact tb_L_law_1373 C hr hlt hS hE hX hbl hK23 hw
      · replace hw := hw.2 hc
        refine r_iconst (v := 0) C dL_law_889 (by decide) ?_
        exact l_ret C hr dL_law_890 hw
    by_cases hc21 : ((xs xl4.toNatClampNeg) &&& (63 : Int32)) = 21
    · replace hw := hw.2.2.2.2.2.2.2.2.2.2.2.2.2.2.2.2.2.2.2.2.2.1 hc21
      refine r_tableIn C dL_law_40 (by rw [hc21]; decide) (by rw [hc21]; decide) (by rw [hc21]; rfl) 891 (by decide) ?_
      refine r_aload_n C dL_law_891 1 rfl ?_
      refine r_aload_n C dL_law_892 0 rfl ?_
      refine r_iload C dL_law_893 4 rfl ?_
      refine r_iconst (v := 1) C dL_law_895 (by decide) ?_
      refine r_iadd C dL_law_896 ?_
      refine l_sld C hX hbl hw.1 dL_law_897 ?_
      replace hw := hw.2
      have hob := hw.1
      replace hw := hw.2
      refine r_callV C (As := [.int (xs (xl4 + (1 : Int32)).toNatClampNeg)]) (rest := []) (c_X11_least G h al1 (xs (xl4 + (1 : Int32)).toNatClampNeg) _ hw) yl_X11_least (gm5 (List.mem_of_getElem? (i := 76) rfl) rfl) (gm5 (List.mem_of_getElem? (i := 77) rfl) rfl) (ci := 10) rfl (by decide) (gm5 (List.mem_of_getElem? (i := 78) rfl) rfl) hob (by decide) rfl (Nat.le_of_ble_eq_true rfl) dL_law_898 rfl (kI fun hv89 iv90 hw => ?_)
      refine r_aload_n C dL_law_901 2 rfl ?_
      refine r_aload_n C dL_law_902 0 rfl ?_
      refine r_iload C dL_law_903 4 rfl ?_
      refine r_iconst (v := 1) C dL_law_905 (by decide) ?_
      refine r_iadd C dL_law_906 ?_
      refine l_sld C hX hbl hw.1 dL_law_907 ?_
      replace hw := hw.2
      have hob := hw.1
      replace hw := hw.2
      refine r_callV C (As := [.int (xs (xl4 + (1 : Int32)).toNatClampNeg)]) (rest := [.int iv90]) (c_X12_least G hv89 al2 (xs (xl4 + (1 : Int32)).toNatClampNeg) _ hw) yl_X12_least (gm8 (List.mem_of_getElem? (i := 208) rfl) rfl) (gm8 (List.mem_of_getElem? (i := 209) rfl) rfl) (ci := 11) rfl (by decide) (gm8 (List.mem_of_getElem? (i := 210) rfl) rfl) hob (by decide) rfl (Nat.le_of_ble_eq_true rfl) dL_law_908 rfl (kI fun hv91 iv92 hw => ?_)
      refine r_icmp_eq C dL_law_911 1373 (by decide) (fun hc => ?_) (fun hc => ?_)
      · replace hw := hw.1 hc
        refine r_sub [0, 1, 2, 3, 4] rfl ?_
        exact tb_L_law_1373 C hr hlt hS hE hX hbl hK23 hw
      · replace hw := hw.2 hc
        refine r_iconst (v := 0) C dL_law_914 (by decide) ?_
        exact l_ret C hr dL_law_915 hw
    by_cases hc22 : ((xs xl4.toNatClampNeg) &&& (63 : Int32)) = 22
    · replace hw := hw.2.2.2.2.2.2.2.2.2.2.2.2.2.2.2.2.2.2.2.2.2.2.1 hc22
      refine r_tableIn C dL_law_40 (by rw [hc22]; decide) (by rw [hc22]; decide) (by rw [hc22]; rfl) 916 (by decide) ?_
      refine r_aload_n C dL_law_916 1 rfl ?_
      refine r_aload_n C dL_law_917 0 rfl ?_
      refine r_iload C dL_law_918 4 rfl ?_
      refine r_iconst (v := 1) C dL_law_920 (by decide) ?_
      refine r_iadd C dL_law_921 ?_
      refine l_sld C hX hbl hw.1 dL_law_922 ?_
      replace hw := hw.2
      refine r_aload_n C dL_law_923 0 rfl ?_
      refine r_iload C dL_law_924 4 rfl ?_
      refine r_iconst (v := 2) C dL_law_926 (by decide) ?_
      refine r_iadd C dL_law_927 ?_
      refine l_sld C hX hbl hw.1 dL_law_928 ?_
      replace hw := hw.2
      refine r_aload_n C dL_law_929 0 rfl ?_
      refine r_iload C dL_law_930 4 rfl ?_
      refine r_iconst (v := 3) C dL_law_932 (by decide) ?_
      refine r_iadd C dL_law_933 ?_
      refine l_sld C hX hbl hw.1 dL_law_934 ?_
      replace hw := hw.2
      have hob := hw.1
      replace hw := hw.2
      refine r_callV C (As := [.int (xs (xl4 + (1 : Int32)).toNatClampNeg), .int (xs (xl4 + (2 : Int32)).toNatClampNeg), .int (xs (xl4 + (3 : Int32)).toNatClampNeg)]) (rest := []) (c_X11_changed G h al1 (xs (xl4 + (1 : Int32)).toNatClampNeg) (xs (xl4 + (2 : Int32)).toNatClampNeg) (xs (xl4 + (3 : Int32)).toNatClampNeg) _ hw) yl_X11_changed (gm5 (List.mem_of_getElem? (i := 182) rfl) rfl) (gm5 (List.mem_of_getElem? (i := 183) rfl) rfl) (ci := 10) rfl (by decide) (gm5 (List.mem_of_getElem? (i := 184) rfl) rfl) hob (by decide) rfl (Nat.le_of_ble_eq_true rfl) dL_law_935 rfl (kI fun hv93 iv94 hw => ?_)
      refine r_aload_n C dL_law_938 2 rfl ?_
      refine r_aload_n C dL_law_939 0 rfl ?_
      refine r_iload C dL_law_940 4 rfl ?_
      refine r_iconst (v := 1) C dL_law_942 (by decide) ?_
      refine r_iadd C dL_law_943 ?_
      refine l_sld C hX hbl hw.1 dL_law_944 ?_
      replace hw := hw.2
      refine r_aload_n C dL_law_945 0 rfl ?_
      refine r_iload C dL_law_946 4 rfl ?_
      refine r_iconst (v := 2) C dL_law_948 (by decide) ?_
      refine r_iadd C dL_law_949 ?_
      refine l_sld C hX hbl hw.1 dL_law_950 ?_
      replace hw := hw.2
      refine r_aload_n C dL_law_951 0 rfl ?_
      refine r_iload C dL_law_952 4 rfl ?_
      refine r_iconst (v := 3) C dL_law_954 (by decide) ?_
      refine r_iadd C dL_law_955 ?_
      refine l_sld C hX hbl hw.1 dL_law_956 ?_
      replace hw := hw.2
      have hob := hw.1
      replace hw := hw.2
      refine r_callV C (As := [.int (xs (xl4 + (1 : Int32)).toNatClampNeg), .int (xs (xl4 + (2 : Int32)).toNatClampNeg), .int (xs (xl4 + (3 : Int32)).toNatClampNeg)]) (rest := [.int iv94]) (c_X12_changed G hv93 al2 (xs (xl4 + (1 : Int32)).toNatClampNeg) (xs (xl4 + (2 : Int32)).toNatClampNeg) (xs (xl4 + (3 : Int32)).toNatClampNeg) _ hw) yl_X12_changed (gm8 (List.mem_of_getElem? (i := 233) rfl) rfl) (gm8 (List.mem_of_getElem? (i := 234) rfl) rfl) (ci := 11) rfl (by decide) (gm8 (List.mem_of_getElem? (i := 235) rfl) rfl) hob (by decide) rfl (Nat.le_of_ble_eq_true rfl) dL_law_957 rfl (kI fun hv95 iv96 hw => ?_)
      refine r_icmp_eq C dL_law_960 1373 (by decide) (fun hc => ?_) (fun hc => ?_)
      · replace hw := hw.1 hc
        refine r_sub [0, 1, 2, 3, 4] rfl ?_
        exact tb_L_law_1373 C hr hlt hS hE hX hbl hK23 hw
      · replace hw := hw.2 hc
        refine r_iconst (v := 0) C dL_law_963 (by decide) ?_
        exact l_ret C hr dL_law_964 hw
    by_cases hc23 : ((xs xl4.toNatClampNeg) &&& (63 : Int32)) = 23
    · replace hw := hw.2.2.2.2.2.2.2.2.2.2.2.2.2.2.2.2.2.2.2.2.2.2.2.1 hc23
      refine r_tableIn C dL_law_40 (by rw [hc23]; decide) (by rw [hc23]; decide) (by rw [hc23]; rfl) 965 (by decide) ?_
      refine r_aload_n C dL_law_965 1 rfl ?_
      refine r_aload_n C dL_law_966 0 rfl ?_
      refine r_iload C dL_law_967 4 rfl ?_
      refine r_iconst (v := 1) C dL_law_969 (by decide) ?_
      refine r_iadd C dL_law_970 ?_
      refine l_sld C hX hbl hw.1 dL_law_971 ?_
      replace hw := hw.2
      refine r_aload_n C dL_law_972 0 rfl ?_
      refine r_iload C dL_law_973 4 rfl ?_
      refine r_iconst (v := 2) C dL_law_975 (by decide) ?_
      refine r_iadd C dL_law_976 ?_
      refine l_sld C hX hbl hw.1 dL_law_977 ?_
      replace hw := hw.2
      refine r_aload_n C dL_law_978 0 rfl ?_
      refine r_iload C dL_law_979 4 rfl ?_
      refine r_iconst (v := 3) C dL_law_981 (by decide) ?_
      refine r_iadd C dL_law_982 ?_
      refine l_sld C hX hbl hw.1 dL_law_983 ?_
      replace hw := hw.2
      refine r_aload_n C dL_law_984 0 rfl ?_
      refine r_iload C dL_law_985 4 rfl ?_
      refine r_iconst (v := 4) C dL_law_987 (by decide) ?_
      refine r_iadd C dL_law_988 ?_
      refine l_sld C hX hbl hw.1 dL_law_989 ?_
      replace hw := hw.2
      refine r_aload_n C dL_law_990 0 rfl ?_
      refine r_iload C dL_law_991 4 rfl ?_
      refine r_iconst (v := 5) C dL_law_993 (by decide) ?_
      refine r_iadd C dL_law_994 ?_
      refine l_sld C hX hbl hw.1 dL_law_995 ?_
      replace hw := hw.2
      have hob := hw.1
      replace hw := hw.2
      refine r_callV C (As := [.int (xs (xl4 + (1 : Int32)).toNatClampNeg), .int (xs (xl4 + (2 : Int32)).toNatClampNeg), .int (xs (xl4 + (3 : Int32)).toNatClampNeg), .int (xs (xl4 + (4 : Int32)).toNatClampNeg), .int (xs (xl4 + (5 : Int32)).toNatClampNeg)]) (rest := []) (c_X11_alone G h al1 (xs (xl4 + (1 : Int32)).toNatClampNeg) (xs (xl4 + (2 : Int32)).toNatClampNeg) (xs (xl4 + (3 : Int32)).toNatClampNeg) (xs (xl4 + (4 : Int32)).toNatClampNeg) (xs (xl4 + (5 : Int32)).toNatClampNeg) _ hw) yl_X11_alone (gm5 (List.mem_of_getElem? (i := 187) rfl) rfl) (gm5 (List.mem_of_getElem? (i := 188) rfl) rfl) (ci := 10) rfl (by decide) (gm5 (List.mem_of_getElem? (i := 189) rfl) rfl) hob (by decide) rfl (Nat.le_of_ble_eq_true rfl) dL_law_996 rfl (kI fun hv97 iv98 hw => ?_)
      refine r_aload_n C dL_law_999 2 rfl ?_
      refine r_aload_n C dL_law_1000 0 rfl ?_
      refine r_iload C dL_law_1001 4 rfl ?_
      refine r_iconst (v := 1) C dL_law_1003 (by decide) ?_
      refine r_iadd C dL_law_1004 ?_
      refine l_sld C hX hbl hw.1 dL_law_1005 ?_
      replace hw := hw.2
      refine r_aload_n C dL_law_1006 0 rfl ?_
      refine r_iload C dL_law_1007 4 rfl ?_
      refine r_iconst (v := 2) C dL_law_1009 (by decide) ?_
      refine r_iadd C dL_law_1010 ?_
      refine l_sld C hX hbl hw.1 dL_law_1011 ?_
      replace hw := hw.2
      refine r_aload_n C dL_law_1012 0 rfl ?_
      refine r_iload C dL_law_1013 4 rfl ?_
      refine r_iconst (v := 3) C dL_law_1015 (by decide) ?_
      refine r_iadd C dL_law_1016 ?_
      refine l_sld C hX hbl hw.1 dL_law_1017 ?_
      replace hw := hw.2
      refine r_aload_n C dL_law_1018 0 rfl ?_
      refine r_iload C dL_law_1019 4 rfl ?_
      refine r_iconst (v := 4) C dL_law_1021 (by decide) ?_
      refine r_iadd C dL_law_1022 ?_
      refine l_sld C hX hbl hw.1 dL_law_1023 ?_
      replace hw := hw.2
      refine r_aload_n C dL_law_1024 0 rfl ?_
      refine r_iload C dL_law_1025 4 rfl ?_
      refine r_iconst (v := 5) C dL_law_1027 (by decide) ?_
      refine r_iadd C dL_law_1028 ?_
      refine l_sld C hX hbl hw.1 dL_law_1029 ?_
      replace hw := hw.2
      have hob := hw.1
      replace hw := hw.2
      refine r_callV C (As := [.int (xs (xl4 + (1 : Int32)).toNatClampNeg), .int (xs (xl4 + (2 : Int32)).toNatClampNeg), .int (xs (xl4 + (3 : Int32)).toNatClampNeg), .int (xs (xl4 + (4 : Int32)).toNatClampNeg), .int (xs (xl4 + (5 : Int32)).toNatClampNeg)]) (rest := [.int iv98]) (c_X12_alone G hv97 al2 (xs (xl4 + (1 : Int32)).toNatClampNeg) (xs (xl4 + (2 : Int32)).toNatClampNeg) (xs (xl4 + (3 : Int32)).toNatClampNeg) (xs (xl4 + (4 : Int32)).toNatClampNeg) (xs (xl4 + (5 : Int32)).toNatClampNeg) _ hw) yl_X12_alone (gm9 (List.mem_of_getElem? (i := 1) rfl) rfl) (gm9 (List.mem_of_getElem? (i := 2) rfl) rfl) (ci := 11) rfl (by decide) (gm9 (List.mem_of_getElem? (i := 3) rfl) rfl) hob (by decide) rfl (Nat.le_of_ble_eq_true rfl) dL_law_1030 rfl (kI fun hv99 iv100 hw => ?_)
      refine r_icmp_eq C dL_law_1033 1373 (by decide) (fun hc => ?_) (fun hc => ?_)
      · replace hw := hw.1 hc
        refine r_sub [0, 1, 2, 3, 4] rfl ?_
        exact tb_L_law_1373 C hr hlt hS hE hX hbl hK23 hw
      · replace hw := hw.2 hc
        refine r_iconst (v := 0) C dL_law_1036 (by decide) ?_
        exact l_ret C hr dL_law_1037 hw
    by_cases hc24 : ((xs xl4.toNatClampNeg) &&& (63 : Int32)) = 24
    · replace hw := hw.2.2.2.2.2.2.2.2.2.2.2.2.2.2.2.2.2.2.2.2.2.2.2.2.1 hc24
      refine r_tableIn C dL_law_40 (by rw [hc24]; decide) (by rw [hc24]; decide) (by rw [hc24]; rfl) 1038 (by decide) ?_
      refine r_aload_n C dL_law_1038 1 rfl ?_
      refine r_aload_n C dL_law_1039 0 rfl ?_
      refine r_iload C dL_law_1040 4 rfl ?_
      refine r_iconst (v := 1) C dL_law_1042 (by decide) ?_
      refine r_iadd C dL_law_1043 ?_
      refine l_sld C hX hbl hw.1 dL_law_1044 ?_
      replace hw := hw.2
      refine r_aload_n C dL_law_1045 0 rfl ?_
      refine r_iload C dL_law_1046 4 rfl ?_
      refine r_iconst (v := 2) C dL_law_1048 (by decide) ?_
      refine r_iadd C dL_law_1049 ?_
      refine l_sld C hX hbl hw.1 dL_law_1050 ?_
      replace hw := hw.2
      have hob := hw.1
      replace hw := hw.2
      refine r_callV C (As := [.int (xs (xl4 + (1 : Int32)).toNatClampNeg), .int (xs (xl4 + (2 : Int32)).toNatClampNeg)]) (rest := []) (c_X11_best G h al1 (xs (xl4 + (1 : Int32)).toNatClampNeg) (xs (xl4 + (2 : Int32)).toNatClampNeg) _ hw) yl_X11_best (gm5 (List.mem_of_getElem? (i := 208) rfl) rfl) (gm5 (List.mem_of_getElem? (i := 209) rfl) rfl) (ci := 10) rfl (by decide) (gm5 (List.mem_of_getElem? (i := 210) rfl) rfl) hob (by decide) rfl (Nat.le_of_ble_eq_true rfl) dL_law_1051 rfl (kI fun hv101 iv102 hw => ?_)
      refine r_aload_n C dL_law_1054 2 rfl ?_
      refine r_aload_n C dL_law_1055 0 rfl ?_
      refine r_iload C dL_law_1056 4 rfl ?_
      refine r_iconst (v := 1) C dL_law_1058 (by decide) ?_
      refine r_iadd C dL_law_1059 ?_
      refine l_sld C hX hbl hw.1 dL_law_1060 ?_
      replace hw := hw.2
      refine r_aload_n C dL_law_1061 0 rfl ?_
      refine r_iload C dL_law_1062 4 rfl ?_
      refine r_iconst (v := 2) C dL_law_1064 (by decide) ?_
      refine r_iadd C dL_law_1065 ?_
      refine l_sld C hX hbl hw.1 dL_law_1066 ?_
      replace hw := hw.2
      have hob := hw.1
      replace hw := hw.2
      refine r_callV C (As := [.int (xs (xl4 + (1 : Int32)).toNatClampNeg), .int (xs (xl4 + (2 : Int32)).toNatClampNeg)]) (rest := [.int iv102]) (c_X12_best G hv101 al2 (xs (xl4 + (1 : Int32)).toNatClampNeg) (xs (xl4 + (2 : Int32)).toNatClampNeg) _ hw) yl_X12_best (gm8 (List.mem_of_getElem? (i := 237) rfl) rfl) (gm8 (List.mem_of_getElem? (i := 238) rfl) rfl) (ci := 11) rfl (by decide) (gm8 (List.mem_of_getElem? (i := 239) rfl) rfl) hob (by decide) rfl (Nat.le_of_ble_eq_true rfl) dL_law_1067 rfl (kI fun hv103 iv104 hw => ?_)
      refine r_icmp_eq C dL_law_1070 1373 (by decide) (fun hc => ?_) (fun hc => ?_)
      · replace hw := hw.1 hc
        refine r_sub [0, 1, 2, 3, 4] rfl ?_
        exact tb_L_law_1373 C hr hlt hS hE hX hbl hK23 hw
      · replace hw := hw.2 hc
        refine r_iconst (v := 0) C dL_law_1073 (by decide) ?_
        exact l_ret C hr dL_law_1074 hw
    by_cases hc25 : ((xs xl4.toNatClampNeg) &&& (63 : Int32)) = 25
    · replace hw := hw.2.2.2.2.2.2.2.2.2.2.2.2.2.2.2.2.2.2.2.2.2.2.2.2.2.1 hc25
      refine r_tableIn C dL_law_40 (by rw [hc25]; decide) (by rw [hc25]; decide) (by rw [hc25]; rfl) 1075 (by decide) ?_
      refine r_aload_n C dL_law_1075 1 rfl ?_
      refine r_aload_n C dL_law_1076 0 rfl ?_
      refine r_iload C dL_law_1077 4 rfl ?_
      refine r_iconst (v := 1) C dL_law_1079 (by decide) ?_
      refine r_iadd C dL_law_1080 ?_
      refine l_sld C hX hbl hw.1 dL_law_1081 ?_
      replace hw := hw.2
      have hob := hw.1
      replace hw := hw.2
      refine r_callV C (As := [.int (xs (xl4 + (1 : Int32)).toNatClampNeg)]) (rest := []) (c_X11_found G h al1 (xs (xl4 + (1 : Int32)).toNatClampNeg) _ hw) yl_X11_found (gm6 (List.mem_of_getElem? (i := 1) rfl) rfl) (gm6 (List.mem_of_getElem? (i := 2) rfl) rfl) (ci := 10) rfl (by decide) (gm6 (List.mem_of_getElem? (i := 3) rfl) rfl) hob (by decide) rfl (Nat.le_of_ble_eq_true rfl) dL_law_1082 rfl (kI fun hv105 iv106 hw => ?_)
      refine r_aload_n C dL_law_1085 2 rfl ?_
      refine r_aload_n C dL_law_1086 0 rfl ?_
      refine r_iload C dL_law_1087 4 rfl ?_
      refine r_iconst (v := 1) C dL_law_1089 (by decide) ?_
      refine r_iadd C dL_law_1090 ?_
      refine l_sld C hX hbl hw.1 dL_law_1091 ?_
      replace hw := hw.2
      have hob := hw.1
      replace hw := hw.2
      refine r_callV C (As := [.int (xs (xl4 + (1 : Int32)).toNatClampNeg)]) (rest := [.int iv106]) (c_X12_found G hv105 al2 (xs (xl4 + (1 : Int32)).toNatClampNeg) _ hw) yl_X12_found (gm9 (List.mem_of_getElem? (i := 17) rfl) rfl) (gm9 (List.mem_of_getElem? (i := 18) rfl) rfl) (ci := 11) rfl (by decide) (gm9 (List.mem_of_getElem? (i := 19) rfl) rfl) hob (by decide) rfl (Nat.le_of_ble_eq_true rfl) dL_law_1092 rfl (kI fun hv107 iv108 hw => ?_)
      refine r_icmp_eq C dL_law_1095 1373 (by decide) (fun hc => ?_) (fun hc => ?_)
      · replace hw := hw.1 hc
        refine r_sub [0, 1, 2, 3, 4] rfl ?_
        exact tb_L_law_1373 C hr hlt hS hE hX hbl hK23 hw
      · replace hw := hw.2 hc
        refine r_iconst (v := 0) C dL_law_1098 (by decide) ?_
        exact l_ret C hr dL_law_1099 hw
    by_cases hc26 : ((xs xl4.toNatClampNeg) &&& (63 : Int32)) = 26
    · replace hw := hw.2.2.2.2.2.2.2.2.2.2.2.2.2.2.2.2.2.2.2.2.2.2.2.2.2.2.1 hc26
      refine r_tableIn C dL_law_40 (by rw [hc26]; decide) (by rw [hc26]; decide) (by rw [hc26]; rfl) 1100 (by decide) ?_
      refine r_aload_n C dL_law_1100 1 rfl ?_
      have hob := hw.1
      replace hw := hw.2
      refine r_callV C (As := []) (rest := []) (c_X11_all G h al1  _ hw) yl_X11_all (gm6 (List.mem_of_getElem? (i := 5) rfl) rfl) (gm6 (List.mem_of_getElem? (i := 6) rfl) rfl) (ci := 10) rfl (by decide) (gm6 (List.mem_of_getElem? (i := 7) rfl) rfl) hob (by decide) rfl (Nat.le_of_ble_eq_true rfl) dL_law_1101 rfl (kI fun hv109 iv110 hw => ?_)
      refine r_aload_n C dL_law_1104 2 rfl ?_
      have hob := hw.1
      replace hw := hw.2
      refine r_callV C (As := []) (rest := [.int iv110]) (c_X12_all G hv109 al2  _ hw) yl_X12_all (gm9 (List.mem_of_getElem? (i := 21) rfl) rfl) (gm9 (List.mem_of_getElem? (i := 22) rfl) rfl) (ci := 11) rfl (by decide) (gm9 (List.mem_of_getElem? (i := 23) rfl) rfl) hob (by decide) rfl (Nat.le_of_ble_eq_true rfl) dL_law_1105 rfl (kI fun hv111 iv112 hw => ?_)
      refine r_icmp_eq C dL_law_1108 1373 (by decide) (fun hc => ?_) (fun hc => ?_)
      · replace hw := hw.1 hc
        refine r_sub [0, 1, 2, 3, 4] rfl ?_
        exact tb_L_law_1373 C hr hlt hS hE hX hbl hK23 hw
      · replace hw := hw.2 hc
        refine r_iconst (v := 0) C dL_law_1111 (by decide) ?_
        exact l_ret C hr dL_law_1112 hw
    by_cases hc27 : ((xs xl4.toNatClampNeg) &&& (63 : Int32)) = 27
    · replace hw := hw.2.2.2.2.2.2.2.2.2.2.2.2.2.2.2.2.2.2.2.2.2.2.2.2.2.2.2.1 hc27
      refine r_tableIn C dL_law_40 (by rw [hc27]; decide) (by rw [hc27]; decide) (by rw [hc27]; rfl) 1113 (by decide) ?_
      refine r_aload_n C dL_law_1113 1 rfl ?_
      refine r_aload_n C dL_law_1114 0 rfl ?_
      refine r_iload C dL_law_1115 4 rfl ?_
      refine r_iconst (v := 1) C dL_law_1117 (by decide) ?_
      refine r_iadd C dL_law_1118 ?_
      refine l_sld C hX hbl hw.1 dL_law_1119 ?_
      replace hw := hw.2
      refine r_aload_n C dL_law_1120 0 rfl ?_
      refine r_iload C dL_law_1121 4 rfl ?_
      refine r_iconst (v := 2) C dL_law_1123 (by decide) ?_
      refine r_iadd C dL_law_1124 ?_
      refine l_sld C hX hbl hw.1 dL_law_1125 ?_
      replace hw := hw.2
      have hob := hw.1
      replace hw := hw.2
      refine r_callV C (As := [.int (xs (xl4 + (1 : Int32)).toNatClampNeg), .int (xs (xl4 + (2 : Int32)).toNatClampNeg)]) (rest := []) (c_X11_allAt G h al1 (xs (xl4 + (1 : Int32)).toNatClampNeg) (xs (xl4 + (2 : Int32)).toNatClampNeg) _ hw) yl_X11_allAt (gm6 (List.mem_of_getElem? (i := 19) rfl) rfl) (gm6 (List.mem_of_getElem? (i := 20) rfl) rfl) (ci := 10) rfl (by decide) (gm6 (List.mem_of_getElem? (i := 21) rfl) rfl) hob (by decide) rfl (Nat.le_of_ble_eq_true rfl) dL_law_1126 rfl (kI fun hv113 iv114 hw => ?_)
      refine r_aload_n C dL_law_1129 2 rfl ?_
      refine r_aload_n C dL_law_1130 0 rfl ?_
      refine r_iload C dL_law_1131 4 rfl ?_
      refine r_iconst (v := 1) C dL_law_1133 (by decide) ?_
      refine r_iadd C dL_law_1134 ?_
      refine l_sld C hX hbl hw.1 dL_law_1135 ?_
      replace hw := hw.2
      refine r_aload_n C dL_law_1136 0 rfl ?_
      refine r_iload C dL_law_1137 4 rfl ?_
      refine r_iconst (v := 2) C dL_law_1139 (by decide) ?_
      refine r_iadd C dL_law_1140 ?_
      refine l_sld C hX hbl hw.1 dL_law_1141 ?_
      replace hw := hw.2
      have hob := hw.1
      replace hw := hw.2
      refine r_callV C (As := [.int (xs (xl4 + (1 : Int32)).toNatClampNeg), .int (xs (xl4 + (2 : Int32)).toNatClampNeg)]) (rest := [.int iv114]) (c_X12_allAt G hv113 al2 (xs (xl4 + (1 : Int32)).toNatClampNeg) (xs (xl4 + (2 : Int32)).toNatClampNeg) _ hw) yl_X12_allAt (gm9 (List.mem_of_getElem? (i := 29) rfl) rfl) (gm9 (List.mem_of_getElem? (i := 30) rfl) rfl) (ci := 11) rfl (by decide) (gm9 (List.mem_of_getElem? (i := 31) rfl) rfl) hob (by decide) rfl (Nat.le_of_ble_eq_true rfl) dL_law_1142 rfl (kI fun hv115 iv116 hw => ?_)
      refine r_icmp_eq C dL_law_1145 1373 (by decide) (fun hc => ?_) (fun hc => ?_)
      · replace hw := hw.1 hc
        refine r_sub [0, 1, 2, 3, 4] rfl ?_
        exact tb_L_law_1373 C hr hlt hS hE hX hbl hK23 hw
      · replace hw := hw.2 hc
        refine r_iconst (v := 0) C dL_law_1148 (by decide) ?_
        exact l_ret C hr dL_law_1149 hw
    by_cases hc28 : ((xs xl4.toNatClampNeg) &&& (63 : Int32)) = 28
    · replace hw := hw.2.2.2.2.2.2.2.2.2.2.2.2.2.2.2.2.2.2.2.2.2.2.2.2.2.2.2.2.1 hc28
      refine r_tableIn C dL_law_40 (by rw [hc28]; decide) (by rw [hc28]; decide) (by rw [hc28]; rfl) 1150 (by decide) ?_
      refine r_aload_n C dL_law_1150 1 rfl ?_
      have hob := hw.1
      replace hw := hw.2
      refine r_callV C (As := []) (rest := []) (c_X11_left G h al1  _ hw) yl_X11_left (gm6 (List.mem_of_getElem? (i := 23) rfl) rfl) (gm6 (List.mem_of_getElem? (i := 24) rfl) rfl) (ci := 10) rfl (by decide) (gm6 (List.mem_of_getElem? (i := 25) rfl) rfl) hob (by decide) rfl (Nat.le_of_ble_eq_true rfl) dL_law_1151 rfl (kI fun hv117 iv118 hw => ?_)
      refine r_aload_n C dL_law_1154 2 rfl ?_
      have hob := hw.1
      replace hw := hw.2
      refine r_callV C (As := []) (rest := [.int iv118]) (c_X12_left G hv117 al2  _ hw) yl_X12_left (gm9 (List.mem_of_getElem? (i := 33) rfl) rfl) (gm9 (List.mem_of_getElem? (i := 34) rfl) rfl) (ci := 11) rfl (by decide) (gm9 (List.mem_of_getElem? (i := 35) rfl) rfl) hob (by decide) rfl (Nat.le_of_ble_eq_true rfl) dL_law_1155 rfl (kI fun hv119 iv120 hw => ?_)
      refine r_icmp_eq C dL_law_1158 1373 (by decide) (fun hc => ?_) (fun hc => ?_)
      · replace hw := hw.1 hc
        refine r_sub [0, 1, 2, 3, 4] rfl ?_
        exact tb_L_law_1373 C hr hlt hS hE hX hbl hK23 hw
      · replace hw := hw.2 hc
        refine r_iconst (v := 0) C dL_law_1161 (by decide) ?_
        exact l_ret C hr dL_law_1162 hw
    by_cases hc29 : ((xs xl4.toNatClampNeg) &&& (63 : Int32)) = 29
    · replace hw := hw.2.2.2.2.2.2.2.2.2.2.2.2.2.2.2.2.2.2.2.2.2.2.2.2.2.2.2.2.2.1 hc29
      refine r_tableIn C dL_law_40 (by rw [hc29]; decide) (by rw [hc29]; decide) (by rw [hc29]; rfl) 1163 (by decide) ?_
      refine r_aload_n C dL_law_1163 1 rfl ?_
      refine r_aload_n C dL_law_1164 0 rfl ?_
      refine r_iload C dL_law_1165 4 rfl ?_
      refine r_iconst (v := 1) C dL_law_1167 (by decide) ?_
      refine r_iadd C dL_law_1168 ?_
      refine l_sld C hX hbl hw.1 dL_law_1169 ?_
      replace hw := hw.2
      refine r_aload_n C dL_law_1170 0 rfl ?_
      refine r_iload C dL_law_1171 4 rfl ?_
      refine r_iconst (v := 2) C dL_law_1173 (by decide) ?_
      refine r_iadd C dL_law_1174 ?_
      refine l_sld C hX hbl hw.1 dL_law_1175 ?_
      replace hw := hw.2
      refine r_aload_n C dL_law_1176 0 rfl ?_
      refine r_iload C dL_law_1177 4 rfl ?_
      refine r_iconst (v := 3) C dL_law_1179 (by decide) ?_
      refine r_iadd C dL_law_1180 ?_
      refine l_sld C hX hbl hw.1 dL_law_1181 ?_
      replace hw := hw.2
      refine r_aload_n C dL_law_1182 0 rfl ?_
      refine r_iload C dL_law_1183 4 rfl ?_
      refine r_iconst (v := 4) C dL_law_1185 (by decide) ?_
      refine r_iadd C dL_law_1186 ?_
      refine l_sld C hX hbl hw.1 dL_law_1187 ?_
      replace hw := hw.2
      have hob := hw.1
      replace hw := hw.2
      refine r_callV C (As := [.int (xs (xl4 + (1 : Int32)).toNatClampNeg), .int (xs (xl4 + (2 : Int32)).toNatClampNeg), .int (xs (xl4 + (3 : Int32)).toNatClampNeg), .int (xs (xl4 + (4 : Int32)).toNatClampNeg)]) (rest := []) (c_X11_could G h al1 (xs (xl4 + (1 : Int32)).toNatClampNeg) (xs (xl4 + (2 : Int32)).toNatClampNeg) (xs (xl4 + (3 : Int32)).toNatClampNeg) (xs (xl4 + (4 : Int32)).toNatClampNeg) _ hw) yl_X11_could (gm6 (List.mem_of_getElem? (i := 27) rfl) rfl) (gm6 (List.mem_of_getElem? (i := 28) rfl) rfl) (ci := 10) rfl (by decide) (gm6 (List.mem_of_getElem? (i := 29) rfl) rfl) hob (by decide) rfl (Nat.le_of_ble_eq_true rfl) dL_law_1188 rfl (kI fun hv121 iv122 hw => ?_)
      refine r_aload_n C dL_law_1191 2 rfl ?_
      refine r_aload_n C dL_law_1192 0 rfl ?_
      refine r_iload C dL_law_1193 4 rfl ?_
      refine r_iconst (v := 1) C dL_law_1195 (by decide) ?_
      refine r_iadd C dL_law_1196 ?_
      refine l_sld C hX hbl hw.1 dL_law_1197 ?_
      replace hw := hw.2
      refine r_aload_n C dL_law_1198 0 rfl ?_
      refine r_iload C dL_law_1199 4 rfl ?_
      refine r_iconst (v := 2) C dL_law_1201 (by decide) ?_
      refine r_iadd C dL_law_1202 ?_
      refine l_sld C hX hbl hw.1 dL_law_1203 ?_
      replace hw := hw.2
      refine r_aload_n C dL_law_1204 0 rfl ?_
      refine r_iload C dL_law_1205 4 rfl ?_
      refine r_iconst (v := 3) C dL_law_1207 (by decide) ?_
      refine r_iadd C dL_law_1208 ?_
      refine l_sld C hX hbl hw.1 dL_law_1209 ?_
      replace hw := hw.2
      refine r_aload_n C dL_law_1210 0 rfl ?_
      refine r_iload C dL_law_1211 4 rfl ?_
      refine r_iconst (v := 4) C dL_law_1213 (by decide) ?_
      refine r_iadd C dL_law_1214 ?_
      refine l_sld C hX hbl hw.1 dL_law_1215 ?_
      replace hw := hw.2
      have hob := hw.1
      replace hw := hw.2
      refine r_callV C (As := [.int (xs (xl4 + (1 : Int32)).toNatClampNeg), .int (xs (xl4 + (2 : Int32)).toNatClampNeg), .int (xs (xl4 + (3 : Int32)).toNatClampNeg), .int (xs (xl4 + (4 : Int32)).toNatClampNeg)]) (rest := [.int iv122]) (c_X12_could G hv121 al2 (xs (xl4 + (1 : Int32)).toNatClampNeg) (xs (xl4 + (2 : Int32)).toNatClampNeg) (xs (xl4 + (3 : Int32)).toNatClampNeg) (xs (xl4 + (4 : Int32)).toNatClampNeg) _ hw) yl_X12_could (gm9 (List.mem_of_getElem? (i := 37) rfl) rfl) (gm9 (List.mem_of_getElem? (i := 38) rfl) rfl) (ci := 11) rfl (by decide) (gm9 (List.mem_of_getElem? (i := 39) rfl) rfl) hob (by decide) rfl (Nat.le_of_ble_eq_true rfl) dL_law_1216 rfl (kI fun hv123 iv124 hw => ?_)
      refine r_icmp_eq C dL_law_1219 1373 (by decide) (fun hc => ?_) (fun hc => ?_)
      · replace hw := hw.1 hc
        refine r_sub [0, 1, 2, 3, 4] rfl ?_
        exact tb_L_law_1373 C hr hlt hS hE hX hbl hK23 hw
      · replace hw := hw.2 hc
        refine r_iconst (v := 0) C dL_law_1222 (by decide) ?_
        exact l_ret C hr dL_law_1223 hw
    by_cases hc30 : ((xs xl4.toNatClampNeg) &&& (63 : Int32)) = 30
    · replace hw := hw.2.2.2.2.2.2.2.2.2.2.2.2.2.2.2.2.2.2.2.2.2.2.2.2.2.2.2.2.2.2.1 hc30
      refine r_tableIn C dL_law_40 (by rw [hc30]; decide) (by rw [hc30]; decide) (by rw [hc30]; rfl) 1224 (by decide) ?_
      refine r_aload_n C dL_law_1224 1 rfl ?_
      refine r_aload_n C dL_law_1225 0 rfl ?_
      refine r_iload C dL_law_1226 4 rfl ?_
      refine r_iconst (v := 1) C dL_law_1228 (by decide) ?_
      refine r_iadd C dL_law_1229 ?_
      refine l_sld C hX hbl hw.1 dL_law_1230 ?_
      replace hw := hw.2
      have hob := hw.1
      replace hw := hw.2
      refine r_callV C (As := [.int (xs (xl4 + (1 : Int32)).toNatClampNeg)]) (rest := []) (c_X11_storm G h al1 (xs (xl4 + (1 : Int32)).toNatClampNeg) _ hw) yl_X11_storm (gm6 (List.mem_of_getElem? (i := 34) rfl) rfl) (gm6 (List.mem_of_getElem? (i := 35) rfl) rfl) (ci := 10) rfl (by decide) (gm6 (List.mem_of_getElem? (i := 36) rfl) rfl) hob (by decide) rfl (Nat.le_of_ble_eq_true rfl) dL_law_1231 rfl (kI fun hv125 iv126 hw => ?_)
      refine r_aload_n C dL_law_1234 2 rfl ?_
      refine r_aload_n C dL_law_1235 0 rfl ?_
      refine r_iload C dL_law_1236 4 rfl ?_
      refine r_iconst (v := 1) C dL_law_1238 (by decide) ?_
      refine r_iadd C dL_law_1239 ?_
      refine l_sld C hX hbl hw.1 dL_law_1240 ?_
      replace hw := hw.2
      have hob := hw.1
      replace hw := hw.2
      refine r_callV C (As := [.int (xs (xl4 + (1 : Int32)).toNatClampNeg)]) (rest := [.int iv126]) (c_X12_storm G hv125 al2 (xs (xl4 + (1 : Int32)).toNatClampNeg) _ hw) yl_X12_storm (gm9 (List.mem_of_getElem? (i := 41) rfl) rfl) (gm9 (List.mem_of_getElem? (i := 42) rfl) rfl) (ci := 11) rfl (by decide) (gm9 (List.mem_of_getElem? (i := 43) rfl) rfl) hob (by decide) rfl (Nat.le_of_ble_eq_true rfl) dL_law_1241 rfl (kI fun hv127 iv128 hw => ?_)
      refine r_icmp_eq C dL_law_1244 1373 (by decide) (fun hc => ?_) (fun hc => ?_)
      · replace hw := hw.1 hc
        refine r_sub [0, 1, 2, 3, 4] rfl ?_
        exact tb_L_law_1373 C hr hlt hS hE hX hbl hK23 hw
      · replace hw := hw.2 hc
        refine r_iconst (v := 0) C dL_law_1247 (by decide) ?_
        exact l_ret C hr dL_law_1248 hw
    by_cases hc31 : ((xs xl4.toNatClampNeg) &&& (63 : Int32)) = 31
    · replace hw := hw.2.2.2.2.2.2.2.2.2.2.2.2.2.2.2.2.2.2.2.2.2.2.2.2.2.2.2.2.2.2.2.1 hc31
      refine r_tableIn C dL_law_40 (by rw [hc31]; decide) (by rw [hc31]; decide) (by rw [hc31]; rfl) 1249 (by decide) ?_
      refine r_aload_n C dL_law_1249 1 rfl ?_
      refine r_aload_n C dL_law_1250 0 rfl ?_
      refine r_iload C dL_law_1251 4 rfl ?_
      refine r_iconst (v := 1) C dL_law_1253 (by decide) ?_
      refine r_iadd C dL_law_1254 ?_
      refine l_sld C hX hbl hw.1 dL_law_1255 ?_
      replace hw := hw.2
      refine r_aload_n C dL_law_1256 0 rfl ?_
      refine r_iload C dL_law_1257 4 rfl ?_
      refine r_iconst (v := 2) C dL_law_1259 (by decide) ?_
      refine r_iadd C dL_law_1260 ?_
      refine l_sld C hX hbl hw.1 dL_law_1261 ?_
      replace hw := hw.2
      refine r_aload_n C dL_law_1262 0 rfl ?_
      refine r_iload C dL_law_1263 4 rfl ?_
      refine r_iconst (v := 3) C dL_law_1265 (by decide) ?_
      refine r_iadd C dL_law_1266 ?_
      refine l_sld C hX hbl hw.1 dL_law_1267 ?_
      replace hw := hw.2
      have hob := hw.1
      replace hw := hw.2
      refine r_callV C (As := [.int (xs (xl4 + (1 : Int32)).toNatClampNeg), .int (xs (xl4 + (2 : Int32)).toNatClampNeg), .int (xs (xl4 + (3 : Int32)).toNatClampNeg)]) (rest := []) (c_X11_cut G h al1 (xs (xl4 + (1 : Int32)).toNatClampNeg) (xs (xl4 + (2 : Int32)).toNatClampNeg) (xs (xl4 + (3 : Int32)).toNatClampNeg) _ hw) yl_X11_cut (gm6 (List.mem_of_getElem? (i := 46) rfl) rfl) (gm6 (List.mem_of_getElem? (i := 47) rfl) rfl) (ci := 10) rfl (by decide) (gm6 (List.mem_of_getElem? (i := 48) rfl) rfl) hob (by decide) rfl (Nat.le_of_ble_eq_true rfl) dL_law_1268 rfl (kI fun hv129 iv130 hw => ?_)
      refine r_aload_n C dL_law_1271 2 rfl ?_
      refine r_aload_n C dL_law_1272 0 rfl ?_
      refine r_iload C dL_law_1273 4 rfl ?_
      refine r_iconst (v := 1) C dL_law_1275 (by decide) ?_
      refine r_iadd C dL_law_1276 ?_
      refine l_sld C hX hbl hw.1 dL_law_1277 ?_
      replace hw := hw.2
      refine r_aload_n C dL_law_1278 0 rfl ?_
      refine r_iload C dL_law_1279 4 rfl ?_
      refine r_iconst (v := 2) C dL_law_1281 (by decide) ?_
      refine r_iadd C dL_law_1282 ?_
      refine l_sld C hX hbl hw.1 dL_law_1283 ?_
      replace hw := hw.2
      refine r_aload_n C dL_law_1284 0 rfl ?_
      refine r_iload C dL_law_1285 4 rfl ?_
      refine r_iconst (v := 3) C dL_law_1287 (by decide) ?_
      refine r_iadd C dL_law_1288 ?_
      refine l_sld C hX hbl hw.1 dL_law_1289 ?_
      replace hw := hw.2
      have hob := hw.1
      replace hw := hw.2
      refine r_callV C (As := [.int (xs (xl4 + (1 : Int32)).toNatClampNeg), .int (xs (xl4 + (2 : Int32)).toNatClampNeg), .int (xs (xl4 + (3 : Int32)).toNatClampNeg)]) (rest := [.int iv130]) (c_X12_cut G hv129 al2 (xs (xl4 + (1 : Int32)).toNatClampNeg) (xs (xl4 + (2 : Int32)).toNatClampNeg) (xs (xl4 + (3 : Int32)).toNatClampNeg) _ hw) yl_X12_cut (gm9 (List.mem_of_getElem? (i := 53) rfl) rfl) (gm9 (List.mem_of_getElem? (i := 54) rfl) rfl) (ci := 11) rfl (by decide) (gm9 (List.mem_of_getElem? (i := 55) rfl) rfl) hob (by decide) rfl (Nat.le_of_ble_eq_true rfl) dL_law_1290 rfl (kI fun hv131 iv132 hw => ?_)
      refine r_icmp_eq C dL_law_1293 1373 (by decide) (fun hc => ?_) (fun hc => ?_)
      · replace hw := hw.1 hc
        refine r_sub [0, 1, 2, 3, 4] rfl ?_
        exact tb_L_law_1373 C hr hlt hS hE hX hbl hK23 hw
      · replace hw := hw.2 hc
        refine r_iconst (v := 0) C dL_law_1296 (by decide) ?_
        exact l_ret C hr dL_law_1297 hw
    by_cases hc32 : ((xs xl4.toNatClampNeg) &&& (63 : Int32)) = 32
    · replace hw := hw.2.2.2.2.2.2.2.2.2.2.2.2.2.2.2.2.2.2.2.2.2.2.2.2.2.2.2.2.2.2.2.2.1 hc32
      refine r_tableIn C dL_law_40 (by rw [hc32]; decide) (by rw [hc32]; decide) (by rw [hc32]; rfl) 1298 (by decide) ?_
      refine r_aload_n C dL_law_1298 1 rfl ?_
      refine r_aload_n C dL_law_1299 0 rfl ?_
      refine r_iload C dL_law_1300 4 rfl ?_
      refine r_iconst (v := 1) C dL_law_1302 (by decide) ?_
      refine r_iadd C dL_law_1303 ?_
      refine l_sld C hX hbl hw.1 dL_law_1304 ?_
      replace hw := hw.2
      have hob := hw.1
      replace hw := hw.2
      refine r_callV C (As := [.int (xs (xl4 + (1 : Int32)).toNatClampNeg)]) (rest := []) (c_X11_image G h al1 (xs (xl4 + (1 : Int32)).toNatClampNeg) _ hw) yl_X11_image (gm6 (List.mem_of_getElem? (i := 66) rfl) rfl) (gm6 (List.mem_of_getElem? (i := 67) rfl) rfl) (ci := 10) rfl (by decide) (gm6 (List.mem_of_getElem? (i := 68) rfl) rfl) hob (by decide) rfl (Nat.le_of_ble_eq_true rfl) dL_law_1305 rfl (kI fun hv133 iv134 hw => ?_)
      refine r_aload_n C dL_law_1308 2 rfl ?_
      refine r_aload_n C dL_law_1309 0 rfl ?_
      refine r_iload C dL_law_1310 4 rfl ?_
      refine r_iconst (v := 1) C dL_law_1312 (by decide) ?_
      refine r_iadd C dL_law_1313 ?_
      refine l_sld C hX hbl hw.1 dL_law_1314 ?_
      replace hw := hw.2
      have hob := hw.1
      replace hw := hw.2
      refine r_callV C (As := [.int (xs (xl4 + (1 : Int32)).toNatClampNeg)]) (rest := [.int iv134]) (c_X12_image G hv133 al2 (xs (xl4 + (1 : Int32)).toNatClampNeg) _ hw) yl_X12_image (gm9 (List.mem_of_getElem? (i := 60) rfl) rfl) (gm9 (List.mem_of_getElem? (i := 61) rfl) rfl) (ci := 11) rfl (by decide) (gm9 (List.mem_of_getElem? (i := 62) rfl) rfl) hob (by decide) rfl (Nat.le_of_ble_eq_true rfl) dL_law_1315 rfl (kI fun hv135 iv136 hw => ?_)
      refine r_icmp_eq C dL_law_1318 1373 (by decide) (fun hc => ?_) (fun hc => ?_)
      · replace hw := hw.1 hc
        refine r_sub [0, 1, 2, 3, 4] rfl ?_
        exact tb_L_law_1373 C hr hlt hS hE hX hbl hK23 hw
      · replace hw := hw.2 hc
        refine r_iconst (v := 0) C dL_law_1321 (by decide) ?_
        exact l_ret C hr dL_law_1322 hw
    by_cases hc33 : ((xs xl4.toNatClampNeg) &&& (63 : Int32)) = 33
    · replace hw := hw.2.2.2.2.2.2.2.2.2.2.2.2.2.2.2.2.2.2.2.2.2.2.2.2.2.2.2.2.2.2.2.2.2.1 hc33
      refine r_tableIn C dL_law_40 (by rw [hc33]; decide) (by rw [hc33]; decide) (by rw [hc33]; rfl) 1323 (by decide) ?_
      refine r_aload_n C dL_law_1323 1 rfl ?_
      refine r_aload_n C dL_law_1324 0 rfl ?_
      refine r_iload C dL_law_1325 4 rfl ?_
      refine r_iconst (v := 1) C dL_law_1327 (by decide) ?_
      refine r_iadd C dL_law_1328 ?_
      refine l_sld C hX hbl hw.1 dL_law_1329 ?_
      replace hw := hw.2
      have hob := hw.1
      replace hw := hw.2
      refine r_callV C (As := [.int (xs (xl4 + (1 : Int32)).toNatClampNeg)]) (rest := []) (c_X11_restore G h al1 (xs (xl4 + (1 : Int32)).toNatClampNeg) _ hw) yl_X11_restore (gm6 (List.mem_of_getElem? (i := 91) rfl) rfl) (gm6 (List.mem_of_getElem? (i := 92) rfl) rfl) (ci := 10) rfl (by decide) (gm6 (List.mem_of_getElem? (i := 93) rfl) rfl) hob (by decide) rfl (Nat.le_of_ble_eq_true rfl) dL_law_1330 rfl (kI fun hv137 iv138 hw => ?_)
      refine r_aload_n C dL_law_1333 2 rfl ?_
      refine r_aload_n C dL_law_1334 0 rfl ?_
      refine r_iload C dL_law_1335 4 rfl ?_
      refine r_iconst (v := 1) C dL_law_1337 (by decide) ?_
      refine r_iadd C dL_law_1338 ?_
      refine l_sld C hX hbl hw.1 dL_law_1339 ?_
      replace hw := hw.2
      have hob := hw.1
      replace hw := hw.2
      refine r_callV C (As := [.int (xs (xl4 + (1 : Int32)).toNatClampNeg)]) (rest := [.int iv138]) (c_X12_restore G hv137 al2 (xs (xl4 + (1 : Int32)).toNatClampNeg) _ hw) yl_X12_restore (gm9 (List.mem_of_getElem? (i := 64) rfl) rfl) (gm9 (List.mem_of_getElem? (i := 65) rfl) rfl) (ci := 11) rfl (by decide) (gm9 (List.mem_of_getElem? (i := 66) rfl) rfl) hob (by decide) rfl (Nat.le_of_ble_eq_true rfl) dL_law_1340 rfl (kI fun hv139 iv140 hw => ?_)
      refine r_icmp_eq C dL_law_1343 1373 (by decide) (fun hc => ?_) (fun hc => ?_)
      · replace hw := hw.1 hc
        refine r_sub [0, 1, 2, 3, 4] rfl ?_
        exact tb_L_law_1373 C hr hlt hS hE hX hbl hK23 hw
      · replace hw := hw.2 hc
        refine r_iconst (v := 0) C dL_law_1346 (by decide) ?_
        exact l_ret C hr dL_law_1347 hw
    by_cases hc34 : ((xs xl4.toNatClampNeg) &&& (63 : Int32)) = 34
    · replace hw := hw.2.2.2.2.2.2.2.2.2.2.2.2.2.2.2.2.2.2.2.2.2.2.2.2.2.2.2.2.2.2.2.2.2.2.1 hc34
      refine r_tableIn C dL_law_40 (by rw [hc34]; decide) (by rw [hc34]; decide) (by rw [hc34]; rfl) 1348 (by decide) ?_
      refine r_aload_n C dL_law_1348 1 rfl ?_
      refine r_aload_n C dL_law_1349 0 rfl ?_
      refine r_iload C dL_law_1350 4 rfl ?_
      refine r_iconst (v := 1) C dL_law_1352 (by decide) ?_
      refine r_iadd C dL_law_1353 ?_
      refine l_sld C hX hbl hw.1 dL_law_1354 ?_
      replace hw := hw.2
      have hob := hw.1
      replace hw := hw.2
      refine r_callV C (As := [.int (xs (xl4 + (1 : Int32)).toNatClampNeg)]) (rest := []) (c_X11_count G h al1 (xs (xl4 + (1 : Int32)).toNatClampNeg) _ hw) yl_X11_count (gm6 (List.mem_of_getElem? (i := 95) rfl) rfl) (gm6 (List.mem_of_getElem? (i := 96) rfl) rfl) (ci := 10) rfl (by decide) (gm6 (List.mem_of_getElem? (i := 97) rfl) rfl) hob (by decide) rfl (Nat.le_of_ble_eq_true rfl) dL_law_1355 rfl (kI fun hv141 iv142 hw => ?_)
      refine r_aload_n C dL_law_1358 2 rfl ?_
      refine r_aload_n C dL_law_1359 0 rfl ?_
      refine r_iload C dL_law_1360 4 rfl ?_
      refine r_iconst (v := 1) C dL_law_1362 (by decide) ?_
      refine r_iadd C dL_law_1363 ?_
      refine l_sld C hX hbl hw.1 dL_law_1364 ?_
      replace hw := hw.2
      have hob := hw.1
      replace hw := hw.2
      refine r_callV C (As := [.int (xs (xl4 + (1 : Int32)).toNatClampNeg)]) (rest := [.int iv142]) (c_X12_count G hv141 al2 (xs (xl4 + (1 : Int32)).toNatClampNeg) _ hw) yl_X12_count (gm9 (List.mem_of_getElem? (i := 68) rfl) rfl) (gm9 (List.mem_of_getElem? (i := 69) rfl) rfl) (ci := 11) rfl (by decide) (gm9 (List.mem_of_getElem? (i := 70) rfl) rfl) hob (by decide) rfl (Nat.le_of_ble_eq_true rfl) dL_law_1365 rfl (kI fun hv143 iv144 hw => ?_)
      refine r_icmp_eq C dL_law_1368 1373 (by decide) (fun hc => ?_) (fun hc => ?_)
      · replace hw := hw.1 hc
        refine r_sub [0, 1, 2, 3, 4] rfl ?_
        exact tb_L_law_1373 C hr hlt hS hE hX hbl hK23 hw
      · replace hw := hw.2 hc
        refine r_iconst (v := 0) C dL_law_1371 (by decide) ?_
        exact l_ret C hr dL_law_1372 hw
    have hcd : ((xs xl4.toNatClampNeg) &&& (63 : Int32)).toInt < 0 ∨ 34 < ((xs xl4.toNatClampNeg) &&& (63 : Int32)).toInt := sw_out ((xs xl4.toNatClampNeg) &&& (63 : Int32)) 34 (by decide) (fun k hk => match k, hk with | 0, _ => hc0 | 1, _ => hc1 | 2, _ => hc2 | 3, _ => hc3 | 4, _ => hc4 | 5, _ => hc5 | 6, _ => hc6 | 7, _ => hc7 | 8, _ => hc8 | 9, _ => hc9 | 10, _ => hc10 | 11, _ => hc11 | 12, _ => hc12 | 13, _ => hc13 | 14, _ => hc14 | 15, _ => hc15 | 16, _ => hc16 | 17, _ => hc17 | 18, _ => hc18 | 19, _ => hc19 | 20, _ => hc20 | 21, _ => hc21 | 22, _ => hc22 | 23, _ => hc23 | 24, _ => hc24 | 25, _ => hc25 | 26, _ => hc26 | 27, _ => hc27 | 28, _ => hc28 | 29, _ => hc29 | 30, _ => hc30 | 31, _ => hc31 | 32, _ => hc32 | 33, _ => hc33 | 34, _ => hc34 | k + 35, hk => absurd hk (by omega))
    replace hw := hw.2.2.2.2.2.2.2.2.2.2.2.2.2.2.2.2.2.2.2.2.2.2.2.2.2.2.2.2.2.2.2.2.2.2.2 hcd
    refine r_tableOut C dL_law_40 hcd 1373 (by decide) ?_
    refine r_sub [0, 1, 2, 3, 4] rfl ?_
    exact tb_L_law_1373 C hr hlt hS hE hX hbl hK23 hw
def wl_L_law_23  (xs : Nat → Int32) (L : Nat) : Nat → AH → Nat → Nat → Nat → Int32 → Prop
  | 0 => fun _ _ _ _ _ => False
  | n + 1 => fun h al1 al2 al3 xl4 => wb_L_law_23  (wl_L_law_23  xs L n) h al1 al2 al3 xl4 xs L
theorem tl_L_law_23 {G : GG} {p : Program} {l : Launch} {e : Env} {s : State} {m : MethodId} {below : List Frame} {meth : Method} {c : Code} {xs : Nat → Int32} {L bb : Nat} (C : Cx G p room_1 s m #[Value.ref bb] meth c 7 cL_law RL 0 0 10 362) (hr : meth.sig.returnType = some .boolean) (hlt : l.stackTraces = false) (hS : SX G s) (hE : XE G s) (hX : va_X bb L xs s G.2.1) (hbl : bb < G.1)   : ∀ (n : Nat) (h : AH) (al1 : Nat) (al2 : Nat) (al3 : Nat) (xl4 : Int32), wl_L_law_23  xs L n h al1 al2 al3 xl4 → AW G p l e room_1 s m #[Value.ref bb] below meth c 7 (lw_Z below #[Value.ref bb] s) 23 [(0, .ref bb), (1, .ref (G.1 + al1)), (2, .ref (G.1 + al2)), (3, .ref (G.1 + al3)), (4, .int xl4)] [] h := by
  intro n
  induction n with
  | zero => intro h al1 al2 al3 xl4 hw; exact hw.elim
  | succ n ih => intro h al1 al2 al3 xl4 hw; exact tb_L_law_23 C hr hlt hS hE hX hbl  ih hw
def wp_L_law (h : AH) (xs : Nat → Int32) (L : Nat) : Prop := (aN h < 601024 ∧ aS h + 15 ≤ 7293034) ∧ (∀ (hv1 : AH) (rv2 : Nat), hv1 = hNew h 10 15 → rv2 = aN h → (wp_X11_init hv1 rv2  (fun hv3  => (aN hv3 < 601024 ∧ aS hv3 + 53 ≤ 7293034) ∧ (∀ (hv4 : AH) (rv5 : Nat), hv4 = hNew hv3 11 53 → rv5 = aN hv3 → (wp_X12_init hv4 rv5  (fun hv6  => (¬ (1 : Int32) < 0) ∧ ((aN hv6 < 601024 ∧ aS hv6 + (1 : Int32).toNatClampNeg ≤ 7293034) ∧ (∀ (hv7 : AH) (rv8 : Nat), hv7 = hNew hv6 14 (1 : Int32).toNatClampNeg → rv8 = aN hv6 → (∃ n, wl_L_law_23  xs L n hv7 rv2 rv5 rv8 0)))))))))
set_option maxRecDepth 100000 in
theorem c_L_law {G : GG} {p : Program} {l : Launch} {e : Env} {s : State} {m : MethodId} {below : List Frame} {meth : Method} {c : Code} {xs : Nat → Int32} {L bb : Nat} (C : Cx G p room_1 s m #[Value.ref bb] meth c 7 cL_law RL 0 0 10 362) (hr : meth.sig.returnType = some .boolean) (hlt : l.stackTraces = false) (hS : SX G s) (hE : XE G s) (hX : va_X bb L xs s G.2.1) (hbl : bb < G.1) {h : AH} (hw : wp_L_law h xs L) : AW G p l e room_1 s m #[Value.ref bb] below meth c 7 (lw_Z below #[Value.ref bb] s) 0 [(0, .ref bb)] [] h := by
  unfold wp_L_law at hw
  refine r_new C (ci := 10) nl_RL_8 hw.1 dL_law_0 ?_
  replace hw := hw.2
  refine r_topn fun hv1 rv2 ehv1 erv2 => ?_
  replace hw := hw hv1 rv2 ehv1 erv2
  refine r_dup C dL_law_3 rfl ?_
  refine s_callI C hS (As := []) (rest := [.ref (G.1 + rv2)]) (c_X11_init G hv1 rv2  _ hw) yl_X11_init (gm1 (List.mem_of_getElem? (i := 28) rfl) rfl) (gm1 (List.mem_of_getElem? (i := 29) rfl) rfl) rfl (by decide) rfl (Nat.le_of_ble_eq_true rfl) dL_law_4 rfl (kV fun hv3  hw => ?_)
  refine r_astore_n C dL_law_7 [(1, .ref (G.1 + rv2)), (0, .ref bb)] (by decide) rfl ?_
  refine r_new C (ci := 11) nl_RL_19 hw.1 dL_law_8 ?_
  replace hw := hw.2
  refine r_topn fun hv4 rv5 ehv4 erv5 => ?_
  replace hw := hw hv4 rv5 ehv4 erv5
  refine r_dup C dL_law_11 rfl ?_
  refine r_callI C (As := []) (rest := [.ref (G.1 + rv5)]) (c_X12_init G hv4 rv5  _ hw) yl_X12_init (gm6 (List.mem_of_getElem? (i := 195) rfl) rfl) (gm6 (List.mem_of_getElem? (i := 196) rfl) rfl) rfl (by decide) rfl (Nat.le_of_ble_eq_true rfl) dL_law_12 rfl (kV fun hv6  hw => ?_)
  refine r_astore_n C dL_law_15 [(2, .ref (G.1 + rv5)), (1, .ref (G.1 + rv2)), (0, .ref bb)] (by decide) rfl ?_
  refine r_iconst (v := 1) C dL_law_16 (by decide) ?_
  refine r_newJ C hw.1 hw.2.1 dL_law_17 (gm1 (List.mem_of_getElem? (i := 134) rfl) rfl) ?_
  replace hw := hw.2.2
  refine r_topn fun hv7 rv8 ehv7 erv8 => ?_
  replace hw := hw hv7 rv8 ehv7 erv8
  refine r_astore_n C dL_law_19 [(3, .ref (G.1 + rv8)), (2, .ref (G.1 + rv5)), (1, .ref (G.1 + rv2)), (0, .ref bb)] (by decide) rfl ?_
  refine r_iconst (v := 0) C dL_law_20 (by decide) ?_
  refine r_istore C dL_law_21 [(4, .int 0), (3, .ref (G.1 + rv8)), (2, .ref (G.1 + rv5)), (1, .ref (G.1 + rv2)), (0, .ref bb)] (by decide) rfl ?_
  refine r_sub [4, 3, 2, 1, 0] rfl ?_
  obtain ⟨n, hw⟩ := hw
  exact tl_L_law_23 C hr hlt hS hE hX hbl  n _ _ _ _ _ hw
