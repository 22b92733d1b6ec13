theorem ff_RX7_11_2 : FF RX7 11 2 0 := ⟨RX2, RX7, TX2, 14, ci2, by decide, (gm2 (List.mem_of_getElem? (i := 11) rfl) rfl), Or.inl rfl, rfl, rfl⟩
theorem ff_RX7_11_3 : FF RX7 11 3 0 := ⟨RX3, RX7, TX3, 15, ci3, by decide, (gm2 (List.mem_of_getElem? (i := 11) rfl) rfl), Or.inl rfl, rfl, rfl⟩
theorem yl_X7_init : YL yX7_init cX7_init 4 none 0 := ⟨(gm1 (List.mem_of_getElem? (i := 41) rfl) rfl), (gm1 (List.mem_of_getElem? (i := 2) rfl) rfl), by decide, by decide, by decide +kernel⟩
theorem nl_RX2_9 : NL RX2 9 1 := ⟨RX1, TX1, 16, ci1, (gm1 (List.mem_of_getElem? (i := 92) rfl) rfl), (gm1 (List.mem_of_getElem? (i := 93) rfl) rfl), (gm1 (List.mem_of_getElem? (i := 8) rfl) rfl), by decide⟩
theorem fp_RX2_12_2 : FP RX2 12 2 12 := ⟨RX2, RX2, TX2, 14, ci2, by decide, (gm2 (List.mem_of_getElem? (i := 8) rfl) rfl), Or.inl rfl, rfl⟩
theorem ff_RX3_9_3 : FF RX3 9 3 13 := ⟨RX3, RX3, TX3, 15, ci3, by decide, (gm2 (List.mem_of_getElem? (i := 78) rfl) rfl), Or.inl rfl, rfl, rfl⟩
theorem ff_RX3_15_3 : FF RX3 15 3 14 := ⟨RX3, RX3, TX3, 15, ci3, by decide, (gm2 (List.mem_of_getElem? (i := 80) rfl) rfl), Or.inl rfl, rfl, rfl⟩
theorem ff_RX11_9_10 : FF RX11 9 10 0 := ⟨RX11, RX11, TX11, 15, ci10, by decide, (gm3 (List.mem_of_getElem? (i := 45) rfl) rfl), Or.inl rfl, rfl, rfl⟩
theorem nl_RX11_13 : NL RX11 13 2 := ⟨RX2, TX2, 14, ci2, (gm1 (List.mem_of_getElem? (i := 34) rfl) rfl), (gm1 (List.mem_of_getElem? (i := 35) rfl) rfl), (gm1 (List.mem_of_getElem? (i := 3) rfl) rfl), by decide⟩
theorem yl_X2_init : YL yX2_init cX2_init 1 none 0 := ⟨(gm1 (List.mem_of_getElem? (i := 38) rfl) rfl), (gm1 (List.mem_of_getElem? (i := 3) rfl) rfl), by decide, by decide, by decide +kernel⟩
theorem ff_RX11_16_10 : FF RX11 16 10 3 := ⟨RX11, RX11, TX11, 15, ci10, by decide, (gm3 (List.mem_of_getElem? (i := 48) rfl) rfl), Or.inl rfl, rfl, rfl⟩
theorem nl_RX11_20 : NL RX11 20 3 := ⟨RX3, TX3, 15, ci3, (gm2 (List.mem_of_getElem? (i := 71) rfl) rfl), (gm2 (List.mem_of_getElem? (i := 72) rfl) rfl), (gm1 (List.mem_of_getElem? (i := 12) rfl) rfl), by decide⟩
theorem yl_X3_init : YL yX3_init cX3_init 1 none 0 := ⟨(gm2 (List.mem_of_getElem? (i := 75) rfl) rfl), (gm1 (List.mem_of_getElem? (i := 12) rfl) rfl), by decide, by decide, by decide +kernel⟩
theorem ff_RX11_23_10 : FF RX11 23 10 4 := ⟨RX11, RX11, TX11, 15, ci10, by decide, (gm3 (List.mem_of_getElem? (i := 49) rfl) rfl), Or.inl rfl, rfl, rfl⟩
theorem ff_RX11_30_10 : FF RX11 30 10 5 := ⟨RX11, RX11, TX11, 15, ci10, by decide, (gm3 (List.mem_of_getElem? (i := 50) rfl) rfl), Or.inl rfl, rfl, rfl⟩
theorem ff_RX11_34_10 : FF RX11 34 10 6 := ⟨RX11, RX11, TX11, 15, ci10, by decide, (gm3 (List.mem_of_getElem? (i := 51) rfl) rfl), Or.inl rfl, rfl, rfl⟩
theorem nl_RX11_38 : NL RX11 38 7 := ⟨RX8, TX8, 3, ci7, (gm2 (List.mem_of_getElem? (i := 155) rfl) rfl), (gm2 (List.mem_of_getElem? (i := 110) rfl) rfl), (gm1 (List.mem_of_getElem? (i := 14) rfl) rfl), by decide⟩
theorem ff_RX11_47_10 : FF RX11 47 10 7 := ⟨RX11, RX11, TX11, 15, ci10, by decide, (gm3 (List.mem_of_getElem? (i := 52) rfl) rfl), Or.inl rfl, rfl, rfl⟩
theorem nl_RX11_51 : NL RX11 51 8 := ⟨RX9, TX9, 6, ci8, (gm2 (List.mem_of_getElem? (i := 157) rfl) rfl), (gm2 (List.mem_of_getElem? (i := 158) rfl) rfl), (gm1 (List.mem_of_getElem? (i := 15) rfl) rfl), by decide⟩
theorem yl_X9_init : YL yX9_init cX9_init 2 none 1 := ⟨(gm2 (List.mem_of_getElem? (i := 161) rfl) rfl), (gm1 (List.mem_of_getElem? (i := 15) rfl) rfl), by decide, by decide, by decide +kernel⟩
theorem ff_RX11_54_10 : FF RX11 54 10 8 := ⟨RX11, RX11, TX11, 15, ci10, by decide, (gm3 (List.mem_of_getElem? (i := 53) rfl) rfl), Or.inl rfl, rfl, rfl⟩
theorem ff_RX11_58_10 : FF RX11 58 10 9 := ⟨RX11, RX11, TX11, 15, ci10, by decide, (gm3 (List.mem_of_getElem? (i := 54) rfl) rfl), Or.inl rfl, rfl, rfl⟩
theorem ff_RX11_61_10 : FF RX11 61 10 10 := ⟨RX11, RX11, TX11, 15, ci10, by decide, (gm3 (List.mem_of_getElem? (i := 55) rfl) rfl), Or.inl rfl, rfl, rfl⟩
theorem nl_RX11_64 : NL RX11 64 6 := ⟨RX6, TX6, 15, ci6, (gm2 (List.mem_of_getElem? (i := 189) rfl) rfl), (gm2 (List.mem_of_getElem? (i := 190) rfl) rfl), (gm1 (List.mem_of_getElem? (i := 16) rfl) rfl), by decide⟩
theorem yl_X6_init : YL yX6_init cX6_init 2 none 1 := ⟨(gm2 (List.mem_of_getElem? (i := 193) rfl) rfl), (gm1 (List.mem_of_getElem? (i := 16) rfl) rfl), by decide, by decide, by decide +kernel⟩
theorem ff_RX11_67_10 : FF RX11 67 10 14 := ⟨RX11, RX11, TX11, 15, ci10, by decide, (gm3 (List.mem_of_getElem? (i := 59) rfl) rfl), Or.inl rfl, rfl, rfl⟩
theorem dX7_init_0 : decode cX7_init 0 = .ok (.aload_n 0, 1) := by decide +kernel
theorem dX7_init_1 : decode cX7_init 1 = .ok (.invokespecial 3, 3) := by decide +kernel
theorem dX7_init_4 : decode cX7_init 4 = .ok (.aload_n 0, 1) := by decide +kernel
theorem dX7_init_5 : decode cX7_init 5 = .ok (.bipush 18, 2) := by decide +kernel
theorem dX7_init_7 : decode cX7_init 7 = .ok (.newarray .int, 2) := by decide +kernel
theorem dX7_init_9 : decode cX7_init 9 = .ok (.putfield 11, 3) := by decide +kernel
theorem dX7_init_12 : decode cX7_init 12 = .ok (.aload_n 0, 1) := by decide +kernel
theorem dX7_init_13 : decode cX7_init 13 = .ok (.iconst 0, 1) := by decide +kernel
theorem dX7_init_14 : decode cX7_init 14 = .ok (.newarray .byte, 2) := by decide +kernel
theorem dX7_init_16 : decode cX7_init 16 = .ok (.putfield 15, 3) := by decide +kernel
theorem dX7_init_19 : decode cX7_init 19 = .ok (.iconst 0, 1) := by decide +kernel
theorem dX7_init_20 : decode cX7_init 20 = .ok (.istore_n 1, 1) := by decide +kernel
theorem dX7_init_21 : decode cX7_init 21 = .ok (.iconst 0, 1) := by decide +kernel
theorem dX7_init_22 : decode cX7_init 22 = .ok (.istore_n 2, 1) := by decide +kernel
theorem dX7_init_23 : decode cX7_init 23 = .ok (.iconst 0, 1) := by decide +kernel
theorem dX7_init_24 : decode cX7_init 24 = .ok (.istore_n 3, 1) := by decide +kernel
theorem dX7_init_25 : decode cX7_init 25 = .ok (.iload_n 3, 1) := by decide +kernel
theorem dX7_init_26 : decode cX7_init 26 = .ok (.ldc 19, 2) := by decide +kernel
theorem dX7_init_28 : decode cX7_init 28 = .ok (.invokevirtual 21, 3) := by decide +kernel
theorem dX7_init_31 : decode cX7_init 31 = .ok (.if_icmp .ge 57, 3) := by decide +kernel
theorem dX7_init_34 : decode cX7_init 34 = .ok (.iload_n 1, 1) := by decide +kernel
theorem dX7_init_35 : decode cX7_init 35 = .ok (.bipush 18, 2) := by decide +kernel
theorem dX7_init_37 : decode cX7_init 37 = .ok (.if_icmp .ge 51, 3) := by decide +kernel
theorem dX7_init_40 : decode cX7_init 40 = .ok (.ldc 19, 2) := by decide +kernel
theorem dX7_init_42 : decode cX7_init 42 = .ok (.iload_n 3, 1) := by decide +kernel
theorem dX7_init_43 : decode cX7_init 43 = .ok (.invokevirtual 27, 3) := by decide +kernel
theorem dX7_init_46 : decode cX7_init 46 = .ok (.bipush 32, 2) := by decide +kernel
theorem dX7_init_48 : decode cX7_init 48 = .ok (.if_icmp .ne 18, 3) := by decide +kernel
theorem dX7_init_51 : decode cX7_init 51 = .ok (.aload_n 0, 1) := by decide +kernel
theorem dX7_init_52 : decode cX7_init 52 = .ok (.getfield 11, 3) := by decide +kernel
theorem dX7_init_55 : decode cX7_init 55 = .ok (.iload_n 1, 1) := by decide +kernel
theorem dX7_init_56 : decode cX7_init 56 = .ok (.iload_n 2, 1) := by decide +kernel
theorem dX7_init_57 : decode cX7_init 57 = .ok (.iastore, 1) := by decide +kernel
theorem dX7_init_58 : decode cX7_init 58 = .ok (.iinc 1 1, 3) := by decide +kernel
theorem dX7_init_61 : decode cX7_init 61 = .ok (.iconst 0, 1) := by decide +kernel
theorem dX7_init_62 : decode cX7_init 62 = .ok (.istore_n 2, 1) := by decide +kernel
theorem dX7_init_63 : decode cX7_init 63 = .ok (.goto 19, 3) := by decide +kernel
theorem dX7_init_66 : decode cX7_init 66 = .ok (.iload_n 2, 1) := by decide +kernel
theorem dX7_init_67 : decode cX7_init 67 = .ok (.iconst 5, 1) := by decide +kernel
theorem dX7_init_68 : decode cX7_init 68 = .ok (.ishl, 1) := by decide +kernel
theorem dX7_init_69 : decode cX7_init 69 = .ok (.ldc 19, 2) := by decide +kernel
theorem dX7_init_71 : decode cX7_init 71 = .ok (.iload_n 3, 1) := by decide +kernel
theorem dX7_init_72 : decode cX7_init 72 = .ok (.invokevirtual 27, 3) := by decide +kernel
theorem dX7_init_75 : decode cX7_init 75 = .ok (.bipush 97, 2) := by decide +kernel
theorem dX7_init_77 : decode cX7_init 77 = .ok (.isub, 1) := by decide +kernel
theorem dX7_init_78 : decode cX7_init 78 = .ok (.iconst 1, 1) := by decide +kernel
theorem dX7_init_79 : decode cX7_init 79 = .ok (.iadd, 1) := by decide +kernel
theorem dX7_init_80 : decode cX7_init 80 = .ok (.ior, 1) := by decide +kernel
theorem dX7_init_81 : decode cX7_init 81 = .ok (.istore_n 2, 1) := by decide +kernel
theorem dX7_init_82 : decode cX7_init 82 = .ok (.iinc 3 1, 3) := by decide +kernel
theorem dX7_init_85 : decode cX7_init 85 = .ok (.goto (-60), 3) := by decide +kernel
theorem dX7_init_88 : decode cX7_init 88 = .ok (.return_, 1) := by decide +kernel
def wb_X7_init_82 (ci : Nat) (K25 : AH → Nat → Int32 → Int32 → Int32 → Prop) (h : AH) (al0 : Nat) (xl1 : Int32) (xl2 : Int32) (xl3 : Int32)  (post : AH → Prop) : Prop := ∀ iv1 : Int32, iv1 = xl3 + 1 → (K25 h al0 xl1 xl2 iv1)
set_option maxRecDepth 100000 in
theorem tb_X7_init_82 {ci : Nat} (hci : ci = 2 ∨ ci = 3) {G : GG} {p : Program} {l : Launch} {e : Env} {R : Room} {s : State} {m : MethodId} {args : Array Value} {below : List Frame} {meth : Method} {c : Code} {n0 s0 : Nat} {post : AH → Prop} (C : Cx G p R s m args meth c 4 cX7_init RX7 n0 s0 4 85) (hr : meth.sig.returnType = none) (hnm : meth.name = "<init>") (hE : SX G s) {K25 : AH → Nat → Int32 → Int32 → Int32 → Prop} (hK25 : ∀ (h : AH) (al0 : Nat) (xl1 : Int32) (xl2 : Int32) (xl3 : Int32), K25 h al0 xl1 xl2 xl3 → AW G p l e R s m args below meth c 4 (QM G (pV post) args s below n0 s0) 25 [(0, .ref (G.1 + al0)), (1, .int xl1), (2, .int xl2), (3, .int xl3)] [] h) {h : AH} {al0 : Nat} {xl1 : Int32} {xl2 : Int32} {xl3 : Int32}  (hw : wb_X7_init_82 ci K25 h al0 xl1 xl2 xl3 post) : AW G p l e R s m args below meth c 4 (QM G (pV post) args s below n0 s0) 82 [(0, .ref (G.1 + al0)), (1, .int xl1), (2, .int xl2), (3, .int xl3)] [] h := by
  unfold wb_X7_init_82 at hw
  rcases hci with rfl | rfl
  · obtain ⟨iv1, eiv1⟩ : ∃ q : Int32, q = xl3 + 1 := ⟨_, rfl⟩
    replace hw := hw iv1 eiv1
    refine r_iinc C dX7_init_82 3 rfl (by rw [eiv1]; rfl) [(3, .int iv1), (0, .ref (G.1 + al0)), (1, .int xl1), (2, .int xl2)] (by decide) rfl ?_
    refine r_goto C dX7_init_85 25 (by decide) ?_
    refine r_sub [1, 2, 3, 0] rfl ?_
    exact hK25 _ _ _ _ _ hw
  · obtain ⟨iv1, eiv1⟩ : ∃ q : Int32, q = xl3 + 1 := ⟨_, rfl⟩
    replace hw := hw iv1 eiv1
    refine r_iinc C dX7_init_82 3 rfl (by rw [eiv1]; rfl) [(3, .int iv1), (0, .ref (G.1 + al0)), (1, .int xl1), (2, .int xl2)] (by decide) rfl ?_
    refine r_goto C dX7_init_85 25 (by decide) ?_
    refine r_sub [1, 2, 3, 0] rfl ?_
    exact hK25 _ _ _ _ _ hw
def wb_X7_init_25 (ci : Nat) (K25 : AH → Nat → Int32 → Int32 → Int32 → Prop) (h : AH) (al0 : Nat) (xl1 : Int32) (xl2 : Int32) (xl3 : Int32)  (post : AH → Prop) : Prop := (96 ≤ xl3 → (post h)) ∧ (¬ 96 ≤ xl3 → ((18 ≤ xl1 → (post h)) ∧ (¬ 18 ≤ xl1 → (∃ nv1 : Nat, nv1 < 96 ∧ xl3 = nI nv1 ∧ ((¬ (stb.getD nv1 0) = 32 → (∃ nv2 : Nat, nv2 < 96 ∧ xl3 = nI nv2 ∧ (∀ iv3 : Int32, iv3 = (xl2 <<< ((5 : Int32) &&& 31)) ||| (((stb.getD nv2 0) - (97 : Int32)) + (1 : Int32)) → (wb_X7_init_82 ci K25 h al0 xl1 iv3 xl3 post)))) ∧ ((stb.getD nv1 0) = 32 → ((ob h al0 ci) ∧ (∃ rv4, aP h al0 0 = some rv4 ∧ ((ob h rv4 13) ∧ ((vp_in xl1 (aL h rv4)) ∧ (∀ hv5 : AH, hv5 = hI h rv4 xl1.toNatClampNeg xl2 → (∀ iv6 : Int32, iv6 = xl1 + 1 → (wb_X7_init_82 ci K25 hv5 al0 iv6 0 xl3 post)))))))))))))
set_option maxRecDepth 100000 in
theorem tb_X7_init_25 {ci : Nat} (hci : ci = 2 ∨ ci = 3) {G : GG} {p : Program} {l : Launch} {e : Env} {R : Room} {s : State} {m : MethodId} {args : Array Value} {below : List Frame} {meth : Method} {c : Code} {n0 s0 : Nat} {post : AH → Prop} (C : Cx G p R s m args meth c 4 cX7_init RX7 n0 s0 4 85) (hr : meth.sig.returnType = none) (hnm : meth.name = "<init>") (hE : SX G s) {K25 : AH → Nat → Int32 → Int32 → Int32 → Prop} (hK25 : ∀ (h : AH) (al0 : Nat) (xl1 : Int32) (xl2 : Int32) (xl3 : Int32), K25 h al0 xl1 xl2 xl3 → AW G p l e R s m args below meth c 4 (QM G (pV post) args s below n0 s0) 25 [(0, .ref (G.1 + al0)), (1, .int xl1), (2, .int xl2), (3, .int xl3)] [] h) {h : AH} {al0 : Nat} {xl1 : Int32} {xl2 : Int32} {xl3 : Int32}  (hw : wb_X7_init_25 ci K25 h al0 xl1 xl2 xl3 post) : AW G p l e R s m args below meth c 4 (QM G (pV post) args s below n0 s0) 25 [(0, .ref (G.1 + al0)), (1, .int xl1), (2, .int xl2), (3, .int xl3)] [] h := by
  unfold wb_X7_init_25 at hw
  rcases hci with rfl | rfl
  · refine r_iload_n C dX7_init_25 3 rfl ?_
    refine s_ldc C hE dX7_init_26 ?_
    refine s_callV C hE (As := []) (rest := [.int xl3]) (c_J0_length_8abf5 G h (fun h' r => h' = h ∧ r = 96) ⟨rfl, rfl⟩) yl_J0_length_8abf5 (gm1 (List.mem_of_getElem? (i := 44) rfl) rfl) (gm1 (List.mem_of_getElem? (i := 45) rfl) rfl) (gm1 (List.mem_of_getElem? (i := 46) rfl) rfl) (by decide) rfl (Nat.le_of_ble_eq_true rfl) dX7_init_28 rfl (kI fun hq rq q1 => ?_)
    obtain ⟨eq1, rfl⟩ := q1
    rw [eq1]
    refine r_icmp_ge C dX7_init_31 88 (by decide) (fun hc => ?_) (fun hc => ?_)
    · replace hw := hw.1 hc
      exact r_vret C hr dX7_init_88 hw
    · replace hw := hw.2 hc
      refine r_iload_n C dX7_init_34 1 rfl ?_
      refine r_bipush (v := 18) C dX7_init_35 (by decide) ?_
      refine r_icmp_ge C dX7_init_37 88 (by decide) (fun hc => ?_) (fun hc => ?_)
      · replace hw := hw.1 hc
        exact r_vret C hr dX7_init_88 hw
      · replace hw := hw.2 hc
        refine s_ldc C hE dX7_init_40 ?_
        refine r_iload_n C dX7_init_42 3 rfl ?_
        obtain ⟨nv1, hlt, hix, hw⟩ := hw
        refine s_callV C hE (As := [.int (nI nv1)]) (rest := []) (c_J0_charAt_5068e G h nv1 hlt (fun h' r => h' = h ∧ r = stb.getD nv1 0) ⟨rfl, rfl⟩) yl_J0_charAt_5068e (gm1 (List.mem_of_getElem? (i := 54) rfl) rfl) (gm1 (List.mem_of_getElem? (i := 55) rfl) rfl) (gm1 (List.mem_of_getElem? (i := 56) rfl) rfl) (by decide) rfl (Nat.le_of_ble_eq_true rfl) dX7_init_43 (by rw [hix]; rfl) (kI fun hq rq q1 => ?_)
        obtain ⟨eq1, rfl⟩ := q1
        rw [eq1]
        refine r_bipush (v := 32) C dX7_init_46 (by decide) ?_
        refine r_icmp_ne C dX7_init_48 66 (by decide) (fun hc => ?_) (fun hc => ?_)
        · replace hw := hw.1 hc
          refine r_iload_n C dX7_init_66 2 rfl ?_
          refine r_iconst (v := 5) C dX7_init_67 (by decide) ?_
          refine r_ishl C dX7_init_68 ?_
          refine s_ldc C hE dX7_init_69 ?_
          refine r_iload_n C dX7_init_71 3 rfl ?_
          obtain ⟨nv2, hlt, hix, hw⟩ := hw
          refine s_callV C hE (As := [.int (nI nv2)]) (rest := [.int (xl2 <<< ((5 : Int32) &&& 31))]) (c_J0_charAt_5068e G h nv2 hlt (fun h' r => h' = h ∧ r = stb.getD nv2 0) ⟨rfl, rfl⟩) yl_J0_charAt_5068e (gm1 (List.mem_of_getElem? (i := 54) rfl) rfl) (gm1 (List.mem_of_getElem? (i := 55) rfl) rfl) (gm1 (List.mem_of_getElem? (i := 56) rfl) rfl) (by decide) rfl (Nat.le_of_ble_eq_true rfl) dX7_init_72 (by rw [hix]; rfl) (kI fun hq rq q1 => ?_)
          obtain ⟨eq1, rfl⟩ := q1
          rw [eq1]
          refine r_bipush (v := 97) C dX7_init_75 (by decide) ?_
          refine r_isub C dX7_init_77 ?_
          refine r_iconst (v := 1) C dX7_init_78 (by decide) ?_
          refine r_iadd C dX7_init_79 ?_
          refine r_ior C dX7_init_80 ?_
          refine r_topi fun iv3 eiv3 => ?_
          replace hw := hw iv3 eiv3
          refine r_istore_n C dX7_init_81 [(2, .int iv3), (0, .ref (G.1 + al0)), (1, .int xl1), (3, .int xl3)] (by decide) rfl ?_
          refine r_sub [1, 2, 0, 3] rfl ?_
          exact tb_X7_init_82 (by decide) C hr hnm hE hK25 hw
        · replace hw := hw.2 hc
          refine r_aload_n C dX7_init_51 0 rfl ?_
          have hob := hw.1
          obtain ⟨rv4, hp, hw⟩ := hw.2
          refine r_getP C fl_RX7_11_2 hob hp (fun _ _ _ => rfl) dX7_init_52 ?_
          refine r_iload_n C dX7_init_55 1 rfl ?_
          refine r_iload_n C dX7_init_56 2 rfl ?_
          refine r_iastore C hw.1 hw.2.1 dX7_init_57 ?_
          replace hw := hw.2.2
          refine r_toph fun hv5 ehv5 => ?_
          replace hw := hw hv5 ehv5
          obtain ⟨iv6, eiv6⟩ : ∃ q : Int32, q = xl1 + 1 := ⟨_, rfl⟩
          replace hw := hw iv6 eiv6
          refine r_iinc C dX7_init_58 1 rfl (by rw [eiv6]; rfl) [(1, .int iv6), (0, .ref (G.1 + al0)), (2, .int xl2), (3, .int xl3)] (by decide) rfl ?_
          refine r_iconst (v := 0) C dX7_init_61 (by decide) ?_
          refine r_istore_n C dX7_init_62 [(2, .int 0), (1, .int iv6), (0, .ref (G.1 + al0)), (3, .int xl3)] (by decide) rfl ?_
          refine r_goto C dX7_init_63 82 (by decide) ?_
          refine r_sub [2, 1, 0, 3] rfl ?_
          exact tb_X7_init_82 (by decide) C hr hnm hE hK25 hw
  · refine r_iload_n C dX7_init_25 3 rfl ?_
    refine s_ldc C hE dX7_init_26 ?_
    refine s_callV C hE (As := []) (rest := [.int xl3]) (c_J0_length_8abf5 G h (fun h' r => h' = h ∧ r = 96) ⟨rfl, rfl⟩) yl_J0_length_8abf5 (gm1 (List.mem_of_getElem? (i := 44) rfl) rfl) (gm1 (List.mem_of_getElem? (i := 45) rfl) rfl) (gm1 (List.mem_of_getElem? (i := 46) rfl) rfl) (by decide) rfl (Nat.le_of_ble_eq_true rfl) dX7_init_28 rfl (kI fun hq rq q1 => ?_)
    obtain ⟨eq1, rfl⟩ := q1
    rw [eq1]
    refine r_icmp_ge C dX7_init_31 88 (by decide) (fun hc => ?_) (fun hc => ?_)
    · replace hw := hw.1 hc
      exact r_vret C hr dX7_init_88 hw
    · replace hw := hw.2 hc
      refine r_iload_n C dX7_init_34 1 rfl ?_
      refine r_bipush (v := 18) C dX7_init_35 (by decide) ?_
      refine r_icmp_ge C dX7_init_37 88 (by decide) (fun hc => ?_) (fun hc => ?_)
      · replace hw := hw.1 hc
        exact r_vret C hr dX7_init_88 hw
      · replace hw := hw.2 hc
        refine s_ldc C hE dX7_init_40 ?_
        refine r_iload_n C dX7_init_42 3 rfl ?_
        obtain ⟨nv1, hlt, hix, hw⟩ := hw
        refine s_callV C hE (As := [.int (nI nv1)]) (rest := []) (c_J0_charAt_5068e G h nv1 hlt (fun h' r => h' = h ∧ r = stb.getD nv1 0) ⟨rfl, rfl⟩) yl_J0_charAt_5068e (gm1 (List.mem_of_getElem? (i := 54) rfl) rfl) (gm1 (List.mem_of_getElem? (i := 55) rfl) rfl) (gm1 (List.mem_of_getElem? (i := 56) rfl) rfl) (by decide) rfl (Nat.le_of_ble_eq_true rfl) dX7_init_43 (by rw [hix]; rfl) (kI fun hq rq q1 => ?_)
        obtain ⟨eq1, rfl⟩ := q1
        rw [eq1]
        refine r_bipush (v := 32) C dX7_init_46 (by decide) ?_
        refine r_icmp_ne C dX7_init_48 66 (by decide) (fun hc => ?_) (fun hc => ?_)
        · replace hw := hw.1 hc
          refine r_iload_n C dX7_init_66 2 rfl ?_
          refine r_iconst (v := 5) C dX7_init_67 (by decide) ?_
          refine r_ishl C dX7_init_68 ?_
          refine s_ldc C hE dX7_init_69 ?_
          refine r_iload_n C dX7_init_71 3 rfl ?_
          obtain ⟨nv2, hlt, hix, hw⟩ := hw
          refine s_callV C hE (As := [.int (nI nv2)]) (rest := [.int (xl2 <<< ((5 : Int32) &&& 31))]) (c_J0_charAt_5068e G h nv2 hlt (fun h' r => h' = h ∧ r = stb.getD nv2 0) ⟨rfl, rfl⟩) yl_J0_charAt_5068e (gm1 (List.mem_of_getElem? (i := 54) rfl) rfl) (gm1 (List.mem_of_getElem? (i := 55) rfl) rfl) (gm1 (List.mem_of_getElem? (i := 56) rfl) rfl) (by decide) rfl (Nat.le_of_ble_eq_true rfl) dX7_init_72 (by rw [hix]; rfl) (kI fun hq rq q1 => ?_)
          obtain ⟨eq1, rfl⟩ := q1
          rw [eq1]
          refine r_bipush (v := 97) C dX7_init_75 (by decide) ?_
          refine r_isub C dX7_init_77 ?_
          refine r_iconst (v := 1) C dX7_init_78 (by decide) ?_
          refine r_iadd C dX7_init_79 ?_
          refine r_ior C dX7_init_80 ?_
          refine r_topi fun iv3 eiv3 => ?_
          replace hw := hw iv3 eiv3
          refine r_istore_n C dX7_init_81 [(2, .int iv3), (0, .ref (G.1 + al0)), (1, .int xl1), (3, .int xl3)] (by decide) rfl ?_
          refine r_sub [1, 2, 0, 3] rfl ?_
          exact tb_X7_init_82 (by decide) C hr hnm hE hK25 hw
        · replace hw := hw.2 hc
          refine r_aload_n C dX7_init_51 0 rfl ?_
          have hob := hw.1
          obtain ⟨rv4, hp, hw⟩ := hw.2
          refine r_getP C fl_RX7_11_3 hob hp (fun _ _ _ => rfl) dX7_init_52 ?_
          refine r_iload_n C dX7_init_55 1 rfl ?_
          refine r_iload_n C dX7_init_56 2 rfl ?_
          refine r_iastore C hw.1 hw.2.1 dX7_init_57 ?_
          replace hw := hw.2.2
          refine r_toph fun hv5 ehv5 => ?_
          replace hw := hw hv5 ehv5
          obtain ⟨iv6, eiv6⟩ : ∃ q : Int32, q = xl1 + 1 := ⟨_, rfl⟩
          replace hw := hw iv6 eiv6
          refine r_iinc C dX7_init_58 1 rfl (by rw [eiv6]; rfl) [(1, .int iv6), (0, .ref (G.1 + al0)), (2, .int xl2), (3, .int xl3)] (by decide) rfl ?_
          refine r_iconst (v := 0) C dX7_init_61 (by decide) ?_
          refine r_istore_n C dX7_init_62 [(2, .int 0), (1, .int iv6), (0, .ref (G.1 + al0)), (3, .int xl3)] (by decide) rfl ?_
          refine r_goto C dX7_init_63 82 (by decide) ?_
          refine r_sub [2, 1, 0, 3] rfl ?_
          exact tb_X7_init_82 (by decide) C hr hnm hE hK25 hw
def wl_X7_init_25 (ci : Nat)  (post : AH → Prop) : Nat → AH → Nat → Int32 → Int32 → Int32 → Prop
  | 0 => fun _ _ _ _ _ => False
  | n + 1 => fun h al0 xl1 xl2 xl3 => wb_X7_init_25 ci  (wl_X7_init_25 ci  post n) h al0 xl1 xl2 xl3 post
theorem tl_X7_init_25 {ci : Nat} (hci : ci = 2 ∨ ci = 3) {G : GG} {p : Program} {l : Launch} {e : Env} {R : Room} {s : State} {m : MethodId} {args : Array Value} {below : List Frame} {meth : Method} {c : Code} {n0 s0 : Nat} {post : AH → Prop} (C : Cx G p R s m args meth c 4 cX7_init RX7 n0 s0 4 85) (hr : meth.sig.returnType = none) (hnm : meth.name = "<init>") (hE : SX G s)   : ∀ (n : Nat) (h : AH) (al0 : Nat) (xl1 : Int32) (xl2 : Int32) (xl3 : Int32), wl_X7_init_25 ci  post n h al0 xl1 xl2 xl3 → AW G p l e R s m args below meth c 4 (QM G (pV post) args s below n0 s0) 25 [(0, .ref (G.1 + al0)), (1, .int xl1), (2, .int xl2), (3, .int xl3)] [] h := by
  intro n
  induction n with
  | zero => intro h al0 xl1 xl2 xl3 hw; exact hw.elim
  | succ n ih => intro h al0 xl1 xl2 xl3 hw; exact tb_X7_init_25 hci C hr hnm hE  ih hw
def wp_X7_init (ci : Nat) (h : AH) (a0 : Nat) (post : AH → Prop) : Prop := (¬ (18 : Int32) < 0) ∧ ((aN h < 601024 ∧ aS h + (18 : Int32).toNatClampNeg ≤ 7293034) ∧ (∀ (hv1 : AH) (rv2 : Nat), hv1 = hNew h 13 (18 : Int32).toNatClampNeg → rv2 = aN h → ((ob hv1 a0 ci) ∧ (∀ hv3 : AH, hv3 = hP hv1 a0 0 rv2 → ((¬ (0 : Int32) < 0) ∧ ((aN hv3 < 601024 ∧ aS hv3 + (0 : Int32).toNatClampNeg ≤ 7293034) ∧ (∀ (hv4 : AH) (rv5 : Nat), hv4 = hNew hv3 12 (0 : Int32).toNatClampNeg → rv5 = aN hv3 → ((ob hv4 a0 ci) ∧ (∀ hv6 : AH, hv6 = hP hv4 a0 1 rv5 → (∃ n, wl_X7_init_25 ci  post n hv6 a0 0 0 0))))))))))
set_option maxRecDepth 100000 in
theorem c_X7_init {ci : Nat} (hci : ci = 2 ∨ ci = 3) (G : GG) (h : AH) (a0 : Nat) (post : AH → Prop) (hw : wp_X7_init ci h a0 post) : MS G yX7_init cX7_init 4 none 4 85 h [.ref (G.1 + a0)] (pV post) := by
  refine MS.of (lv := [(0, .ref (G.1 + a0))]) (by decide) (Nat.le_of_ble_eq_true rfl) rfl fun p l e R s m args below meth c C hE hr hnm => ?_
  unfold wp_X7_init at hw
  rcases hci with rfl | rfl
  · refine r_aload_n C dX7_init_0 0 rfl ?_
    refine r_objInit C (gm1 (List.mem_of_getElem? (i := 42) rfl) rfl) (gm1 (List.mem_of_getElem? (i := 32) rfl) rfl) (gm1 (List.mem_of_getElem? (i := 33) rfl) rfl) dX7_init_1 ⟨by decide, Nat.le_of_ble_eq_true rfl⟩ ?_
    refine r_aload_n C dX7_init_4 0 rfl ?_
    refine r_bipush (v := 18) C dX7_init_5 (by decide) ?_
    refine r_newI C hw.1 hw.2.1 dX7_init_7 (gm1 (List.mem_of_getElem? (i := 133) rfl) rfl) ?_
    replace hw := hw.2.2
    refine r_topn fun hv1 rv2 ehv1 erv2 => ?_
    replace hw := hw hv1 rv2 ehv1 erv2
    refine r_putPF C ff_RX7_11_2 hnm hw.1 (fun _ _ _ => rfl) dX7_init_9 ?_
    replace hw := hw.2
    refine r_toph fun hv3 ehv3 => ?_
    replace hw := hw hv3 ehv3
    refine r_aload_n C dX7_init_12 0 rfl ?_
    refine r_iconst (v := 0) C dX7_init_13 (by decide) ?_
    refine r_newB C hw.1 hw.2.1 dX7_init_14 (gm1 (List.mem_of_getElem? (i := 132) rfl) rfl) ?_
    replace hw := hw.2.2
    refine r_topn fun hv4 rv5 ehv4 erv5 => ?_
    replace hw := hw hv4 rv5 ehv4 erv5
    refine r_putP C fp_RX7_15_2 hw.1 (fun _ _ _ => rfl) dX7_init_16 ?_
    replace hw := hw.2
    refine r_toph fun hv6 ehv6 => ?_
    replace hw := hw hv6 ehv6
    refine r_iconst (v := 0) C dX7_init_19 (by decide) ?_
    refine r_istore_n C dX7_init_20 [(1, .int 0), (0, .ref (G.1 + a0))] (by decide) rfl ?_
    refine r_iconst (v := 0) C dX7_init_21 (by decide) ?_
    refine r_istore_n C dX7_init_22 [(2, .int 0), (1, .int 0), (0, .ref (G.1 + a0))] (by decide) rfl ?_
    refine r_iconst (v := 0) C dX7_init_23 (by decide) ?_
    refine r_istore_n C dX7_init_24 [(3, .int 0), (2, .int 0), (1, .int 0), (0, .ref (G.1 + a0))] (by decide) rfl ?_
    refine r_sub [3, 2, 1, 0] rfl ?_
    obtain ⟨n, hw⟩ := hw
    exact tl_X7_init_25 (by decide) C hr hnm hE  n _ _ _ _ _ hw
  · refine r_aload_n C dX7_init_0 0 rfl ?_
    refine r_objInit C (gm1 (List.mem_of_getElem? (i := 42) rfl) rfl) (gm1 (List.mem_of_getElem? (i := 32) rfl) rfl) (gm1 (List.mem_of_getElem? (i := 33) rfl) rfl) dX7_init_1 ⟨by decide, Nat.le_of_ble_eq_true rfl⟩ ?_
    refine r_aload_n C dX7_init_4 0 rfl ?_
    refine r_bipush (v := 18) C dX7_init_5 (by decide) ?_
    refine r_newI C hw.1 hw.2.1 dX7_init_7 (gm1 (List.mem_of_getElem? (i := 133) rfl) rfl) ?_
    replace hw := hw.2.2
    refine r_topn fun hv1 rv2 ehv1 erv2 => ?_
    replace hw := hw hv1 rv2 ehv1 erv2
    refine r_putPF C ff_RX7_11_3 hnm hw.1 (fun _ _ _ => rfl) dX7_init_9 ?_
    replace hw := hw.2
    refine r_toph fun hv3 ehv3 => ?_
    replace hw := hw hv3 ehv3
    refine r_aload_n C dX7_init_12 0 rfl ?_
    refine r_iconst (v := 0) C dX7_init_13 (by decide) ?_
    refine r_newB C hw.1 hw.2.1 dX7_init_14 (gm1 (List.mem_of_getElem? (i := 132) rfl) rfl) ?_
    replace hw := hw.2.2
    refine r_topn fun hv4 rv5 ehv4 erv5 => ?_
    replace hw := hw hv4 rv5 ehv4 erv5
    refine r_putP C fp_RX7_15_3 hw.1 (fun _ _ _ => rfl) dX7_init_16 ?_
    replace hw := hw.2
    refine r_toph fun hv6 ehv6 => ?_
    replace hw := hw hv6 ehv6
    refine r_iconst (v := 0) C dX7_init_19 (by decide) ?_
    refine r_istore_n C dX7_init_20 [(1, .int 0), (0, .ref (G.1 + a0))] (by decide) rfl ?_
    refine r_iconst (v := 0) C dX7_init_21 (by decide) ?_
    refine r_istore_n C dX7_init_22 [(2, .int 0), (1, .int 0), (0, .ref (G.1 + a0))] (by decide) rfl ?_
    refine r_iconst (v := 0) C dX7_init_23 (by decide) ?_
    refine r_istore_n C dX7_init_24 [(3, .int 0), (2, .int 0), (1, .int 0), (0, .ref (G.1 + a0))] (by decide) rfl ?_
    refine r_sub [3, 2, 1, 0] rfl ?_
    obtain ⟨n, hw⟩ := hw
    exact tl_X7_init_25 (by decide) C hr hnm hE  n _ _ _ _ _ hw
theorem dX2_init_0 : decode cX2_init 0 = .ok (.aload_n 0, 1) := by decide +kernel
theorem dX2_init_1 : decode cX2_init 1 = .ok (.invokespecial 3, 3) := by decide +kernel
theorem dX2_init_4 : decode cX2_init 4 = .ok (.aload_n 0, 1) := by decide +kernel
theorem dX2_init_5 : decode cX2_init 5 = .ok (.new 9, 3) := by decide +kernel
theorem dX2_init_8 : decode cX2_init 8 = .ok (.dup, 1) := by decide +kernel
theorem dX2_init_9 : decode cX2_init 9 = .ok (.invokespecial 11, 3) := by decide +kernel
theorem dX2_init_12 : decode cX2_init 12 = .ok (.putfield 12, 3) := by decide +kernel
theorem dX2_init_15 : decode cX2_init 15 = .ok (.return_, 1) := by decide +kernel
def wp_X2_init (h : AH) (a0 : Nat) (post : AH → Prop) : Prop := wp_X7_init 2 h a0  (fun hv1  => (aN hv1 < 601024 ∧ aS hv1 + 16 ≤ 7293034) ∧ (∀ (hv2 : AH) (rv3 : Nat), hv2 = hNew hv1 1 16 → rv3 = aN hv1 → (wp_X1_init hv2 rv3  (fun hv4  => (ob hv4 a0 2) ∧ (∀ hv5 : AH, hv5 = hP hv4 a0 12 rv3 → (post hv5))))))
set_option maxRecDepth 100000 in
theorem c_X2_init (G : GG) (h : AH) (a0 : Nat) (post : AH → Prop) (hw : wp_X2_init h a0 post) : MS G yX2_init cX2_init 1 none 5 108 h [.ref (G.1 + a0)] (pV post) := by
  refine MS.of (lv := [(0, .ref (G.1 + a0))]) (by decide) (Nat.le_of_ble_eq_true rfl) rfl fun p l e R s m args below meth c C hE hr hnm => ?_
  unfold wp_X2_init at hw
  refine r_aload_n C dX2_init_0 0 rfl ?_
  refine s_callI C hE (As := []) (rest := []) (c_X7_init (by decide) G h a0  _ hw) yl_X7_init (gm1 (List.mem_of_getElem? (i := 39) rfl) rfl) (gm1 (List.mem_of_getElem? (i := 40) rfl) rfl) rfl (by decide) rfl (Nat.le_of_ble_eq_true rfl) dX2_init_1 rfl (kV fun hv1  hw => ?_)
  refine r_aload_n C dX2_init_4 0 rfl ?_
  refine r_new C (ci := 1) nl_RX2_9 hw.1 dX2_init_5 ?_
  replace hw := hw.2
  refine r_topn fun hv2 rv3 ehv2 erv3 => ?_
  replace hw := hw hv2 rv3 ehv2 erv3
  refine r_dup C dX2_init_8 rfl ?_
  refine r_callI C (As := []) (rest := [.ref (G.1 + rv3), .ref (G.1 + a0)]) (c_X1_init G hv2 rv3  _ hw) yl_X1_init (gm1 (List.mem_of_getElem? (i := 94) rfl) rfl) (gm1 (List.mem_of_getElem? (i := 95) rfl) rfl) rfl (by decide) rfl (Nat.le_of_ble_eq_true rfl) dX2_init_9 rfl (kV fun hv4  hw => ?_)
  refine r_putP C fp_RX2_12_2 hw.1 (fun _ _ _ => rfl) dX2_init_12 ?_
  replace hw := hw.2
  refine r_toph fun hv5 ehv5 => ?_
  replace hw := hw hv5 ehv5
  exact r_vret C hr dX2_init_15 hw
theorem dX3_init_0 : decode cX3_init 0 = .ok (.aload_n 0, 1) := by decide +kernel
theorem dX3_init_1 : decode cX3_init 1 = .ok (.invokespecial 3, 3) := by decide +kernel
theorem dX3_init_4 : decode cX3_init 4 = .ok (.aload_n 0, 1) := by decide +kernel
theorem dX3_init_5 : decode cX3_init 5 = .ok (.bipush 60, 2) := by decide +kernel
theorem dX3_init_7 : decode cX3_init 7 = .ok (.newarray .int, 2) := by decide +kernel
theorem dX3_init_9 : decode cX3_init 9 = .ok (.putfield 9, 3) := by decide +kernel
theorem dX3_init_12 : decode cX3_init 12 = .ok (.aload_n 0, 1) := by decide +kernel
theorem dX3_init_13 : decode cX3_init 13 = .ok (.bipush 60, 2) := by decide +kernel
theorem dX3_init_15 : decode cX3_init 15 = .ok (.newarray .int, 2) := by decide +kernel
theorem dX3_init_17 : decode cX3_init 17 = .ok (.putfield 15, 3) := by decide +kernel
theorem dX3_init_20 : decode cX3_init 20 = .ok (.return_, 1) := by decide +kernel
def wp_X3_init (h : AH) (a0 : Nat) (post : AH → Prop) : Prop := wp_X7_init 3 h a0  (fun hv1  => (¬ (60 : Int32) < 0) ∧ ((aN hv1 < 601024 ∧ aS hv1 + (60 : Int32).toNatClampNeg ≤ 7293034) ∧ (∀ (hv2 : AH) (rv3 : Nat), hv2 = hNew hv1 13 (60 : Int32).toNatClampNeg → rv3 = aN hv1 → ((ob hv2 a0 3) ∧ (∀ hv4 : AH, hv4 = hP hv2 a0 13 rv3 → ((¬ (60 : Int32) < 0) ∧ ((aN hv4 < 601024 ∧ aS hv4 + (60 : Int32).toNatClampNeg ≤ 7293034) ∧ (∀ (hv5 : AH) (rv6 : Nat), hv5 = hNew hv4 13 (60 : Int32).toNatClampNeg → rv6 = aN hv4 → ((ob hv5 a0 3) ∧ (∀ hv7 : AH, hv7 = hP hv5 a0 14 rv6 → (post hv7)))))))))))
set_option maxRecDepth 100000 in
theorem c_X3_init (G : GG) (h : AH) (a0 : Nat) (post : AH → Prop) (hw : wp_X3_init h a0 post) : MS G yX3_init cX3_init 1 none 5 108 h [.ref (G.1 + a0)] (pV post) := by
  refine MS.of (lv := [(0, .ref (G.1 + a0))]) (by decide) (Nat.le_of_ble_eq_true rfl) rfl fun p l e R s m args below meth c C hE hr hnm => ?_
  unfold wp_X3_init at hw
  refine r_aload_n C dX3_init_0 0 rfl ?_
  refine s_callI C hE (As := []) (rest := []) (c_X7_init (by decide) G h a0  _ hw) yl_X7_init (gm2 (List.mem_of_getElem? (i := 76) rfl) rfl) (gm1 (List.mem_of_getElem? (i := 40) rfl) rfl) rfl (by decide) rfl (Nat.le_of_ble_eq_true rfl) dX3_init_1 rfl (kV fun hv1  hw => ?_)
  refine r_aload_n C dX3_init_4 0 rfl ?_
  refine r_bipush (v := 60) C dX3_init_5 (by decide) ?_
  refine r_newI C hw.1 hw.2.1 dX3_init_7 (gm1 (List.mem_of_getElem? (i := 133) rfl) rfl) ?_
  replace hw := hw.2.2
  refine r_topn fun hv2 rv3 ehv2 erv3 => ?_
  replace hw := hw hv2 rv3 ehv2 erv3
  refine r_putPF C ff_RX3_9_3 hnm hw.1 (fun _ _ _ => rfl) dX3_init_9 ?_
  replace hw := hw.2
  refine r_toph fun hv4 ehv4 => ?_
  replace hw := hw hv4 ehv4
  refine r_aload_n C dX3_init_12 0 rfl ?_
  refine r_bipush (v := 60) C dX3_init_13 (by decide) ?_
  refine r_newI C hw.1 hw.2.1 dX3_init_15 (gm1 (List.mem_of_getElem? (i := 133) rfl) rfl) ?_
  replace hw := hw.2.2
  refine r_topn fun hv5 rv6 ehv5 erv6 => ?_
  replace hw := hw hv5 rv6 ehv5 erv6
  refine r_putPF C ff_RX3_15_3 hnm hw.1 (fun _ _ _ => rfl) dX3_init_17 ?_
  replace hw := hw.2
  refine r_toph fun hv7 ehv7 => ?_
  replace hw := hw hv7 ehv7
  exact r_vret C hr dX3_init_20 hw
theorem dX11_init_0 : decode cX11_init 0 = .ok (.aload_n 0, 1) := by decide +kernel
theorem dX11_init_1 : decode cX11_init 1 = .ok (.invokespecial 1, 3) := by decide +kernel
theorem dX11_init_4 : decode cX11_init 4 = .ok (.aload_n 0, 1) := by decide +kernel
theorem dX11_init_5 : decode cX11_init 5 = .ok (.sipush 940, 3) := by decide +kernel
theorem dX11_init_8 : decode cX11_init 8 = .ok (.newarray .byte, 2) := by decide +kernel
theorem dX11_init_10 : decode cX11_init 10 = .ok (.putfield 9, 3) := by decide +kernel
theorem dX11_init_13 : decode cX11_init 13 = .ok (.aload_n 0, 1) := by decide +kernel
theorem dX11_init_14 : decode cX11_init 14 = .ok (.new 13, 3) := by decide +kernel
theorem dX11_init_17 : decode cX11_init 17 = .ok (.dup, 1) := by decide +kernel
theorem dX11_init_18 : decode cX11_init 18 = .ok (.invokespecial 15, 3) := by decide +kernel
theorem dX11_init_21 : decode cX11_init 21 = .ok (.putfield 16, 3) := by decide +kernel
theorem dX11_init_24 : decode cX11_init 24 = .ok (.aload_n 0, 1) := by decide +kernel
theorem dX11_init_25 : decode cX11_init 25 = .ok (.new 20, 3) := by decide +kernel
theorem dX11_init_28 : decode cX11_init 28 = .ok (.dup, 1) := by decide +kernel
theorem dX11_init_29 : decode cX11_init 29 = .ok (.invokespecial 22, 3) := by decide +kernel
theorem dX11_init_32 : decode cX11_init 32 = .ok (.putfield 23, 3) := by decide +kernel
theorem dX11_init_35 : decode cX11_init 35 = .ok (.aload_n 0, 1) := by decide +kernel
theorem dX11_init_36 : decode cX11_init 36 = .ok (.new 27, 3) := by decide +kernel
theorem dX11_init_39 : decode cX11_init 39 = .ok (.dup, 1) := by decide +kernel
theorem dX11_init_40 : decode cX11_init 40 = .ok (.invokespecial 29, 3) := by decide +kernel
theorem dX11_init_43 : decode cX11_init 43 = .ok (.putfield 30, 3) := by decide +kernel
theorem dX11_init_46 : decode cX11_init 46 = .ok (.aload_n 0, 1) := by decide +kernel
theorem dX11_init_47 : decode cX11_init 47 = .ok (.iconst 2, 1) := by decide +kernel
theorem dX11_init_48 : decode cX11_init 48 = .ok (.anewarray 27, 3) := by decide +kernel
theorem dX11_init_51 : decode cX11_init 51 = .ok (.putfield 34, 3) := by decide +kernel
theorem dX11_init_54 : decode cX11_init 54 = .ok (.aload_n 0, 1) := by decide +kernel
theorem dX11_init_55 : decode cX11_init 55 = .ok (.new 38, 3) := by decide +kernel
theorem dX11_init_58 : decode cX11_init 58 = .ok (.dup, 1) := by decide +kernel
theorem dX11_init_59 : decode cX11_init 59 = .ok (.aload_n 0, 1) := by decide +kernel
theorem dX11_init_60 : decode cX11_init 60 = .ok (.getfield 30, 3) := by decide +kernel
theorem dX11_init_63 : decode cX11_init 63 = .ok (.getfield 40, 3) := by decide +kernel
theorem dX11_init_66 : decode cX11_init 66 = .ok (.invokespecial 44, 3) := by decide +kernel
theorem dX11_init_69 : decode cX11_init 69 = .ok (.putfield 47, 3) := by decide +kernel
theorem dX11_init_72 : decode cX11_init 72 = .ok (.aload_n 0, 1) := by decide +kernel
theorem dX11_init_73 : decode cX11_init 73 = .ok (.new 51, 3) := by decide +kernel
theorem dX11_init_76 : decode cX11_init 76 = .ok (.dup, 1) := by decide +kernel
theorem dX11_init_77 : decode cX11_init 77 = .ok (.aload_n 0, 1) := by decide +kernel
theorem dX11_init_78 : decode cX11_init 78 = .ok (.getfield 30, 3) := by decide +kernel
theorem dX11_init_81 : decode cX11_init 81 = .ok (.getfield 40, 3) := by decide +kernel
theorem dX11_init_84 : decode cX11_init 84 = .ok (.invokespecial 53, 3) := by decide +kernel
theorem dX11_init_87 : decode cX11_init 87 = .ok (.putfield 54, 3) := by decide +kernel
theorem dX11_init_90 : decode cX11_init 90 = .ok (.aload_n 0, 1) := by decide +kernel
theorem dX11_init_91 : decode cX11_init 91 = .ok (.new 51, 3) := by decide +kernel
theorem dX11_init_94 : decode cX11_init 94 = .ok (.dup, 1) := by decide +kernel
theorem dX11_init_95 : decode cX11_init 95 = .ok (.aload_n 0, 1) := by decide +kernel
theorem dX11_init_96 : decode cX11_init 96 = .ok (.getfield 30, 3) := by decide +kernel
theorem dX11_init_99 : decode cX11_init 99 = .ok (.getfield 40, 3) := by decide +kernel
theorem dX11_init_102 : decode cX11_init 102 = .ok (.invokespecial 53, 3) := by decide +kernel
theorem dX11_init_105 : decode cX11_init 105 = .ok (.putfield 58, 3) := by decide +kernel
theorem dX11_init_108 : decode cX11_init 108 = .ok (.aload_n 0, 1) := by decide +kernel
theorem dX11_init_109 : decode cX11_init 109 = .ok (.new 51, 3) := by decide +kernel
theorem dX11_init_112 : decode cX11_init 112 = .ok (.dup, 1) := by decide +kernel
theorem dX11_init_113 : decode cX11_init 113 = .ok (.aload_n 0, 1) := by decide +kernel
theorem dX11_init_114 : decode cX11_init 114 = .ok (.getfield 30, 3) := by decide +kernel
theorem dX11_init_117 : decode cX11_init 117 = .ok (.getfield 40, 3) := by decide +kernel
theorem dX11_init_120 : decode cX11_init 120 = .ok (.invokespecial 53, 3) := by decide +kernel
theorem dX11_init_123 : decode cX11_init 123 = .ok (.putfield 61, 3) := by decide +kernel
theorem dX11_init_126 : decode cX11_init 126 = .ok (.aload_n 0, 1) := by decide +kernel
theorem dX11_init_127 : decode cX11_init 127 = .ok (.new 64, 3) := by decide +kernel
theorem dX11_init_130 : decode cX11_init 130 = .ok (.dup, 1) := by decide +kernel
theorem dX11_init_131 : decode cX11_init 131 = .ok (.aload_n 0, 1) := by decide +kernel
theorem dX11_init_132 : decode cX11_init 132 = .ok (.getfield 30, 3) := by decide +kernel
theorem dX11_init_135 : decode cX11_init 135 = .ok (.getfield 40, 3) := by decide +kernel
theorem dX11_init_138 : decode cX11_init 138 = .ok (.invokespecial 66, 3) := by decide +kernel
theorem dX11_init_141 : decode cX11_init 141 = .ok (.putfield 67, 3) := by decide +kernel
theorem dX11_init_144 : decode cX11_init 144 = .ok (.aload_n 0, 1) := by decide +kernel
theorem dX11_init_145 : decode cX11_init 145 = .ok (.iconst 0, 1) := by decide +kernel
theorem dX11_init_146 : decode cX11_init 146 = .ok (.putfield 71, 3) := by decide +kernel
theorem dX11_init_149 : decode cX11_init 149 = .ok (.return_, 1) := by decide +kernel
def wp_X11_init (h : AH) (a0 : Nat) (post : AH → Prop) : Prop := (¬ (940 : Int32) < 0) ∧ ((aN h < 601024 ∧ aS h + (940 : Int32).toNatClampNeg ≤ 7293034) ∧ (∀ (hv1 : AH) (rv2 : Nat), hv1 = hNew h 12 (940 : Int32).toNatClampNeg → rv2 = aN h → ((ob hv1 a0 10) ∧ (∀ hv3 : AH, hv3 = hP hv1 a0 0 rv2 → ((aN hv3 < 601024 ∧ aS hv3 + 14 ≤ 7293034) ∧ (∀ (hv4 : AH) (rv5 : Nat), hv4 = hNew hv3 2 14 → rv5 = aN hv3 → (wp_X2_init hv4 rv5  (fun hv6  => (ob hv6 a0 10) ∧ (∀ hv7 : AH, hv7 = hP hv6 a0 3 rv5 → ((aN hv7 < 601024 ∧ aS hv7 + 15 ≤ 7293034) ∧ (∀ (hv8 : AH) (rv9 : Nat), hv8 = hNew hv7 3 15 → rv9 = aN hv7 → (wp_X3_init hv8 rv9  (fun hv10  => (ob hv10 a0 10) ∧ (∀ hv11 : AH, hv11 = hP hv10 a0 4 rv9 → ((aN hv11 < 601024 ∧ aS hv11 + 5 ≤ 7293034) ∧ (∀ (hv12 : AH) (rv13 : Nat), hv12 = hNew hv11 5 5 → rv13 = aN hv11 → (wp_X5_init hv12 rv13  (fun hv14  => (ob hv14 a0 10) ∧ (∀ hv15 : AH, hv15 = hP hv14 a0 5 rv13 → ((¬ (2 : Int32) < 0) ∧ ((aN hv15 < 601024 ∧ aS hv15 + (2 : Int32).toNatClampNeg ≤ 7293034) ∧ (∀ (hv16 : AH) (rv17 : Nat), hv16 = hNew hv15 16 (2 : Int32).toNatClampNeg → rv17 = aN hv15 → ((ob hv16 a0 10) ∧ (∀ hv18 : AH, hv18 = hP hv16 a0 6 rv17 → ((aN hv18 < 601024 ∧ aS hv18 + 3 ≤ 7293034) ∧ (∀ (hv19 : AH) (rv20 : Nat), hv19 = hNew hv18 7 3 → rv20 = aN hv18 → ((ob hv19 a0 10) ∧ (∃ rv21, aP hv19 a0 5 = some rv21 ∧ ((ob hv19 rv21 5) ∧ (∃ rv22, aP hv19 rv21 0 = some rv22 ∧ (wp_X8_init hv19 rv20 rv22 (fun hv23  => (ob hv23 a0 10) ∧ (∀ hv24 : AH, hv24 = hP hv23 a0 7 rv20 → ((aN hv24 < 601024 ∧ aS hv24 + 6 ≤ 7293034) ∧ (∀ (hv25 : AH) (rv26 : Nat), hv25 = hNew hv24 8 6 → rv26 = aN hv24 → ((ob hv25 a0 10) ∧ (∃ rv27, aP hv25 a0 5 = some rv27 ∧ ((ob hv25 rv27 5) ∧ (∃ rv28, aP hv25 rv27 0 = some rv28 ∧ (wp_X9_init hv25 rv26 rv28 (fun hv29  => (ob hv29 a0 10) ∧ (∀ hv30 : AH, hv30 = hP hv29 a0 8 rv26 → ((aN hv30 < 601024 ∧ aS hv30 + 6 ≤ 7293034) ∧ (∀ (hv31 : AH) (rv32 : Nat), hv31 = hNew hv30 8 6 → rv32 = aN hv30 → ((ob hv31 a0 10) ∧ (∃ rv33, aP hv31 a0 5 = some rv33 ∧ ((ob hv31 rv33 5) ∧ (∃ rv34, aP hv31 rv33 0 = some rv34 ∧ (wp_X9_init hv31 rv32 rv34 (fun hv35  => (ob hv35 a0 10) ∧ (∀ hv36 : AH, hv36 = hP hv35 a0 9 rv32 → ((aN hv36 < 601024 ∧ aS hv36 + 6 ≤ 7293034) ∧ (∀ (hv37 : AH) (rv38 : Nat), hv37 = hNew hv36 8 6 → rv38 = aN hv36 → ((ob hv37 a0 10) ∧ (∃ rv39, aP hv37 a0 5 = some rv39 ∧ ((ob hv37 rv39 5) ∧ (∃ rv40, aP hv37 rv39 0 = some rv40 ∧ (wp_X9_init hv37 rv38 rv40 (fun hv41  => (ob hv41 a0 10) ∧ (∀ hv42 : AH, hv42 = hP hv41 a0 10 rv38 → ((aN hv42 < 601024 ∧ aS hv42 + 15 ≤ 7293034) ∧ (∀ (hv43 : AH) (rv44 : Nat), hv43 = hNew hv42 6 15 → rv44 = aN hv42 → ((ob hv43 a0 10) ∧ (∃ rv45, aP hv43 a0 5 = some rv45 ∧ ((ob hv43 rv45 5) ∧ (∃ rv46, aP hv43 rv45 0 = some rv46 ∧ (wp_X6_init hv43 rv44 rv46 (fun hv47  => (ob hv47 a0 10) ∧ (∀ hv48 : AH, hv48 = hP hv47 a0 14 rv44 → ((ob hv48 a0 10) ∧ (∀ hv49 : AH, hv49 = hI hv48 a0 1 0 → (post hv49))))))))))))))))))))))))))))))))))))))))))))))))))))))))))))))))))))))))
set_option maxRecDepth 100000 in
theorem c_X11_init (G : GG) (h : AH) (a0 : Nat) (post : AH → Prop) (hw : wp_X11_init h a0 post) : MS G yX11_init cX11_init 1 none 6 128 h [.ref (G.1 + a0)] (pV post) := by
  refine MS.of (lv := [(0, .ref (G.1 + a0))]) (by decide) (Nat.le_of_ble_eq_true rfl) rfl fun p l e R s m args below meth c C hE hr hnm => ?_
  unfold wp_X11_init at hw
  refine r_aload_n C dX11_init_0 0 rfl ?_
  refine r_objInit C (gm1 (List.mem_of_getElem? (i := 31) rfl) rfl) (gm1 (List.mem_of_getElem? (i := 32) rfl) rfl) (gm1 (List.mem_of_getElem? (i := 33) rfl) rfl) dX11_init_1 ⟨by decide, Nat.le_of_ble_eq_true rfl⟩ ?_
  refine r_aload_n C dX11_init_4 0 rfl ?_
  refine r_sipush (v := 940) C dX11_init_5 (by decide) ?_
  refine r_newB C hw.1 hw.2.1 dX11_init_8 (gm1 (List.mem_of_getElem? (i := 132) rfl) rfl) ?_
  replace hw := hw.2.2
  refine r_topn fun hv1 rv2 ehv1 erv2 => ?_
  replace hw := hw hv1 rv2 ehv1 erv2
  refine r_putPF C ff_RX11_9_10 hnm hw.1 (fun _ _ _ => rfl) dX11_init_10 ?_
  replace hw := hw.2
  refine r_toph fun hv3 ehv3 => ?_
  replace hw := hw hv3 ehv3
  refine r_aload_n C dX11_init_13 0 rfl ?_
  refine r_new C (ci := 2) nl_RX11_13 hw.1 dX11_init_14 ?_
  replace hw := hw.2
  refine r_topn fun hv4 rv5 ehv4 erv5 => ?_
  replace hw := hw hv4 rv5 ehv4 erv5
  refine r_dup C dX11_init_17 rfl ?_
  refine s_callIN C hE (As := []) (rest := [.ref (G.1 + rv5), .ref (G.1 + a0)]) (c_X2_init G hv4 rv5  _ hw) yl_X2_init (List.mem_of_getElem? (i := 0) rfl) (gm1 (List.mem_of_getElem? (i := 37) rfl) rfl) rfl (by decide) rfl (Nat.le_of_ble_eq_true rfl) dX11_init_18 rfl (kV fun hv6  hw => ?_)
  refine r_putPF C ff_RX11_16_10 hnm hw.1 (fun _ _ _ => rfl) dX11_init_21 ?_
  replace hw := hw.2
  refine r_toph fun hv7 ehv7 => ?_
  replace hw := hw hv7 ehv7
  refine r_aload_n C dX11_init_24 0 rfl ?_
  refine r_new C (ci := 3) nl_RX11_20 hw.1 dX11_init_25 ?_
  replace hw := hw.2
  refine r_topn fun hv8 rv9 ehv8 erv9 => ?_
  replace hw := hw hv8 rv9 ehv8 erv9
  refine r_dup C dX11_init_28 rfl ?_
  refine s_callIN C hE (As := []) (rest := [.ref (G.1 + rv9), .ref (G.1 + a0)]) (c_X3_init G hv8 rv9  _ hw) yl_X3_init (List.mem_of_getElem? (i := 3) rfl) (gm2 (List.mem_of_getElem? (i := 74) rfl) rfl) rfl (by decide) rfl (Nat.le_of_ble_eq_true rfl) dX11_init_29 rfl (kV fun hv10  hw => ?_)
  refine r_putPF C ff_RX11_23_10 hnm hw.1 (fun _ _ _ => rfl) dX11_init_32 ?_
  replace hw := hw.2
  refine r_toph fun hv11 ehv11 => ?_
  replace hw := hw hv11 ehv11
  refine r_aload_n C dX11_init_35 0 rfl ?_
  refine r_new C (ci := 5) nl_RX11_27 hw.1 dX11_init_36 ?_
  replace hw := hw.2
  refine r_topn fun hv12 rv13 ehv12 erv13 => ?_
  replace hw := hw hv12 rv13 ehv12 erv13
  refine r_dup C dX11_init_39 rfl ?_
  refine r_callIN C (As := []) (rest := [.ref (G.1 + rv13), .ref (G.1 + a0)]) (c_X5_init G hv12 rv13  _ hw) yl_X5_init (List.mem_of_getElem? (i := 4) rfl) (gm2 (List.mem_of_getElem? (i := 104) rfl) rfl) rfl (by decide) rfl (Nat.le_of_ble_eq_true rfl) dX11_init_40 rfl (kV fun hv14  hw => ?_)
  refine r_putPF C ff_RX11_30_10 hnm hw.1 (fun _ _ _ => rfl) dX11_init_43 ?_
  replace hw := hw.2
  refine r_toph fun hv15 ehv15 => ?_
  replace hw := hw hv15 ehv15
  refine r_aload_n C dX11_init_46 0 rfl ?_
  refine r_iconst (v := 2) C dX11_init_47 (by decide) ?_
  refine s_newS C (gm2 (List.mem_of_getElem? (i := 101) rfl) rfl) hE hw.1 hw.2.1 dX11_init_48 ?_
  replace hw := hw.2.2
  refine r_topn fun hv16 rv17 ehv16 erv17 => ?_
  replace hw := hw hv16 rv17 ehv16 erv17
  refine r_putPF C ff_RX11_34_10 hnm hw.1 (fun _ _ _ => rfl) dX11_init_51 ?_
  replace hw := hw.2
  refine r_toph fun hv18 ehv18 => ?_
  replace hw := hw hv18 ehv18
  refine r_aload_n C dX11_init_54 0 rfl ?_
  refine r_new C (ci := 7) nl_RX11_38 hw.1 dX11_init_55 ?_
  replace hw := hw.2
  refine r_topn fun hv19 rv20 ehv19 erv20 => ?_
  replace hw := hw hv19 rv20 ehv19 erv20
  refine r_dup C dX11_init_58 rfl ?_
  refine r_aload_n C dX11_init_59 0 rfl ?_
  have hob := hw.1
  obtain ⟨rv21, hp, hw⟩ := hw.2
  refine r_getP C fl_RX11_30_10 hob hp (fun _ _ _ => rfl) dX11_init_60 ?_
  have hob := hw.1
  obtain ⟨rv22, hp, hw⟩ := hw.2
  refine r_getP C fl_RX11_40_5 hob hp (fun _ _ _ => rfl) dX11_init_63 ?_
  refine r_callI C (As := [.ref (G.1 + rv22)]) (rest := [.ref (G.1 + rv20), .ref (G.1 + a0)]) (c_X8_init G hv19 rv20 rv22 _ hw) yl_X8_init (gm2 (List.mem_of_getElem? (i := 156) rfl) rfl) (gm2 (List.mem_of_getElem? (i := 112) rfl) rfl) rfl (by decide) rfl (Nat.le_of_ble_eq_true rfl) dX11_init_66 rfl (kV fun hv23  hw => ?_)
  refine r_putPF C ff_RX11_47_10 hnm hw.1 (fun _ _ _ => rfl) dX11_init_69 ?_
  replace hw := hw.2
  refine r_toph fun hv24 ehv24 => ?_
  replace hw := hw hv24 ehv24
  refine r_aload_n C dX11_init_72 0 rfl ?_
  refine r_new C (ci := 8) nl_RX11_51 hw.1 dX11_init_73 ?_
  replace hw := hw.2
  refine r_topn fun hv25 rv26 ehv25 erv26 => ?_
  replace hw := hw hv25 rv26 ehv25 erv26
  refine r_dup C dX11_init_76 rfl ?_
  refine r_aload_n C dX11_init_77 0 rfl ?_
  have hob := hw.1
  obtain ⟨rv27, hp, hw⟩ := hw.2
  refine r_getP C fl_RX11_30_10 hob hp (fun _ _ _ => rfl) dX11_init_78 ?_
  have hob := hw.1
  obtain ⟨rv28, hp, hw⟩ := hw.2
  refine r_getP C fl_RX11_40_5 hob hp (fun _ _ _ => rfl) dX11_init_81 ?_
  refine r_callI C (As := [.ref (G.1 + rv28)]) (rest := [.ref (G.1 + rv26), .ref (G.1 + a0)]) (c_X9_init G hv25 rv26 rv28 _ hw) yl_X9_init (gm2 (List.mem_of_getElem? (i := 159) rfl) rfl) (gm2 (List.mem_of_getElem? (i := 160) rfl) rfl) rfl (by decide) rfl (Nat.le_of_ble_eq_true rfl) dX11_init_84 rfl (kV fun hv29  hw => ?_)
  refine r_putPF C ff_RX11_54_10 hnm hw.1 (fun _ _ _ => rfl) dX11_init_87 ?_
  replace hw := hw.2
  refine r_toph fun hv30 ehv30 => ?_
  replace hw := hw hv30 ehv30
  refine r_aload_n C dX11_init_90 0 rfl ?_
  refine r_new C (ci := 8) nl_RX11_51 hw.1 dX11_init_91 ?_
  replace hw := hw.2
  refine r_topn fun hv31 rv32 ehv31 erv32 => ?_
  replace hw := hw hv31 rv32 ehv31 erv32
  refine r_dup C dX11_init_94 rfl ?_
  refine r_aload_n C dX11_init_95 0 rfl ?_
  have hob := hw.1
  obtain ⟨rv33, hp, hw⟩ := hw.2
  refine r_getP C fl_RX11_30_10 hob hp (fun _ _ _ => rfl) dX11_init_96 ?_
  have hob := hw.1
  obtain ⟨rv34, hp, hw⟩ := hw.2
  refine r_getP C fl_RX11_40_5 hob hp (fun _ _ _ => rfl) dX11_init_99 ?_
  refine r_callI C (As := [.ref (G.1 + rv34)]) (rest := [.ref (G.1 + rv32), .ref (G.1 + a0)]) (c_X9_init G hv31 rv32 rv34 _ hw) yl_X9_init (gm2 (List.mem_of_getElem? (i := 159) rfl) rfl) (gm2 (List.mem_of_getElem? (i := 160) rfl) rfl) rfl (by decide) rfl (Nat.le_of_ble_eq_true rfl) dX11_init_102 rfl (kV fun hv35  hw => ?_)
  refine r_putPF C ff_RX11_58_10 hnm hw.1 (fun _ _ _ => rfl) dX11_init_105 ?_
  replace hw := hw.2
  refine r_toph fun hv36 ehv36 => ?_
  replace hw := hw hv36 ehv36
  refine r_aload_n C dX11_init_108 0 rfl ?_
  refine r_new C (ci := 8) nl_RX11_51 hw.1 dX11_init_109 ?_
  replace hw := hw.2
  refine r_topn fun hv37 rv38 ehv37 erv38 => ?_
  replace hw := hw hv37 rv38 ehv37 erv38
  refine r_dup C dX11_init_112 rfl ?_
  refine r_aload_n C dX11_init_113 0 rfl ?_
  have hob := hw.1
  obtain ⟨rv39, hp, hw⟩ := hw.2
  refine r_getP C fl_RX11_30_10 hob hp (fun _ _ _ => rfl) dX11_init_114 ?_
  have hob := hw.1
  obtain ⟨rv40, hp, hw⟩ := hw.2
  refine r_getP C fl_RX11_40_5 hob hp (fun _ _ _ => rfl) dX11_init_117 ?_
  refine r_callI C (As := [.ref (G.1 + rv40)]) (rest := [.ref (G.1 + rv38), .ref (G.1 + a0)]) (c_X9_init G hv37 rv38 rv40 _ hw) yl_X9_init (gm2 (List.mem_of_getElem? (i := 159) rfl) rfl) (gm2 (List.mem_of_getElem? (i := 160) rfl) rfl) rfl (by decide) rfl (Nat.le_of_ble_eq_true rfl) dX11_init_120 rfl (kV fun hv41  hw => ?_)
  refine r_putPF C ff_RX11_61_10 hnm hw.1 (fun _ _ _ => rfl) dX11_init_123 ?_
  replace hw := hw.2
  refine r_toph fun hv42 ehv42 => ?_
  replace hw := hw hv42 ehv42
  refine r_aload_n C dX11_init_126 0 rfl ?_
  refine r_new C (ci := 6) nl_RX11_64 hw.1 dX11_init_127 ?_
  replace hw := hw.2
  refine r_topn fun hv43 rv44 ehv43 erv44 => ?_
  replace hw := hw hv43 rv44 ehv43 erv44
  refine r_dup C dX11_init_130 rfl ?_
  refine r_aload_n C dX11_init_131 0 rfl ?_
  have hob := hw.1
  obtain ⟨rv45, hp, hw⟩ := hw.2
  refine r_getP C fl_RX11_30_10 hob hp (fun _ _ _ => rfl) dX11_init_132 ?_
  have hob := hw.1
  obtain ⟨rv46, hp, hw⟩ := hw.2
  refine r_getP C fl_RX11_40_5 hob hp (fun _ _ _ => rfl) dX11_init_135 ?_
  refine r_callI C (As := [.ref (G.1 + rv46)]) (rest := [.ref (G.1 + rv44), .ref (G.1 + a0)]) (c_X6_init G hv43 rv44 rv46 _ hw) yl_X6_init (gm2 (List.mem_of_getElem? (i := 191) rfl) rfl) (gm2 (List.mem_of_getElem? (i := 192) rfl) rfl) rfl (by decide) rfl (Nat.le_of_ble_eq_true rfl) dX11_init_138 rfl (kV fun hv47  hw => ?_)
  refine r_putPF C ff_RX11_67_10 hnm hw.1 (fun _ _ _ => rfl) dX11_init_141 ?_
  replace hw := hw.2
  refine r_toph fun hv48 ehv48 => ?_
  replace hw := hw hv48 ehv48
  refine r_aload_n C dX11_init_144 0 rfl ?_
  refine r_iconst (v := 0) C dX11_init_145 (by decide) ?_
  refine r_putI C fp_RX11_71_10 hw.1 rfl dX11_init_146 ?_
  replace hw := hw.2
  refine r_toph fun hv49 ehv49 => ?_
  replace hw := hw hv49 ehv49
  exact r_vret C hr dX11_init_149 hw
