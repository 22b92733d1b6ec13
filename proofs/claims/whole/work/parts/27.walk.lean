theorem yl_X12_isCell : YL yX12_isCell cX12_isCell 3 (some .boolean) 2 := ⟨(gm8 (List.mem_of_getElem? (i := 37) rfl) rfl), (gm1 (List.mem_of_getElem? (i := 18) rfl) rfl), by decide, by decide, by decide +kernel⟩
theorem yl_X12_isHour : YL yX12_isHour cX12_isHour 1 (some .boolean) 1 := ⟨(gm8 (List.mem_of_getElem? (i := 40) rfl) rfl), (gm1 (List.mem_of_getElem? (i := 18) rfl) rfl), by decide, by decide, by decide +kernel⟩
theorem yl_X12_deep : YL yX12_deep cX12_deep 5 (some .int) 3 := ⟨(gm8 (List.mem_of_getElem? (i := 44) rfl) rfl), (gm1 (List.mem_of_getElem? (i := 18) rfl) rfl), by decide, by decide, by decide +kernel⟩
theorem yl_X12_isOver : YL yX12_isOver cX12_isOver 3 (some .boolean) 2 := ⟨(gm8 (List.mem_of_getElem? (i := 92) rfl) rfl), (gm1 (List.mem_of_getElem? (i := 18) rfl) rfl), by decide, by decide, by decide +kernel⟩
theorem yl_X12_isRaft : YL yX12_isRaft cX12_isRaft 2 (some .boolean) 1 := ⟨(gm8 (List.mem_of_getElem? (i := 52) rfl) rfl), (gm1 (List.mem_of_getElem? (i := 18) rfl) rfl), by decide, by decide, by decide +kernel⟩
theorem yl_X12_throwsIf : YL yX12_throwsIf cX12_throwsIf 2 (some .boolean) 1 := ⟨(gm8 (List.mem_of_getElem? (i := 56) rfl) rfl), (gm1 (List.mem_of_getElem? (i := 18) rfl) rfl), by decide, by decide, by decide +kernel⟩
theorem yl_X12_asItIs : YL yX12_asItIs cX12_asItIs 2 none 0 := ⟨(gm8 (List.mem_of_getElem? (i := 60) rfl) rfl), (gm1 (List.mem_of_getElem? (i := 18) rfl) rfl), by decide, by decide, by decide +kernel⟩
theorem yl_X12_isOn : YL yX12_isOn cX12_isOn 4 (some .boolean) 3 := ⟨(gm8 (List.mem_of_getElem? (i := 68) rfl) rfl), (gm1 (List.mem_of_getElem? (i := 18) rfl) rfl), by decide, by decide, by decide +kernel⟩
theorem yl_X12_isInside : YL yX12_isInside cX12_isInside 2 (some .boolean) 1 := ⟨(gm8 (List.mem_of_getElem? (i := 84) rfl) rfl), (gm1 (List.mem_of_getElem? (i := 18) rfl) rfl), by decide, by decide, by decide +kernel⟩
theorem yl_X12_isOnAnother : YL yX12_isOnAnother cX12_isOnAnother 3 (some .boolean) 1 := ⟨(gm8 (List.mem_of_getElem? (i := 88) rfl) rfl), (gm1 (List.mem_of_getElem? (i := 18) rfl) rfl), by decide, by decide, by decide +kernel⟩
theorem yl_X12_isTown : YL yX12_isTown cX12_isTown 2 (some .boolean) 0 := ⟨(gm8 (List.mem_of_getElem? (i := 80) rfl) rfl), (gm1 (List.mem_of_getElem? (i := 18) rfl) rfl), by decide, by decide, by decide +kernel⟩
theorem yl_X12_takesTown : YL yX12_takesTown cX12_takesTown 2 (some .boolean) 0 := ⟨(gm8 (List.mem_of_getElem? (i := 76) rfl) rfl), (gm1 (List.mem_of_getElem? (i := 18) rfl) rfl), by decide, by decide, by decide +kernel⟩
theorem yl_X12_keepTown : YL yX12_keepTown cX12_keepTown 2 none 0 := ⟨(gm8 (List.mem_of_getElem? (i := 96) rfl) rfl), (gm1 (List.mem_of_getElem? (i := 18) rfl) rfl), by decide, by decide, by decide +kernel⟩
theorem yl_X12_doesFloat : YL yX12_doesFloat cX12_doesFloat 5 (some .boolean) 2 := ⟨(gm8 (List.mem_of_getElem? (i := 104) rfl) rfl), (gm1 (List.mem_of_getElem? (i := 18) rfl) rfl), by decide, by decide, by decide +kernel⟩
theorem yl_X12_hours : YL yX12_hours cX12_hours 4 (some .int) 1 := ⟨(gm8 (List.mem_of_getElem? (i := 116) rfl) rfl), (gm1 (List.mem_of_getElem? (i := 18) rfl) rfl), by decide, by decide, by decide +kernel⟩
theorem yl_X12_turns : YL yX12_turns cX12_turns 7 (some .boolean) 1 := ⟨(gm8 (List.mem_of_getElem? (i := 132) rfl) rfl), (gm1 (List.mem_of_getElem? (i := 18) rfl) rfl), by decide, by decide, by decide +kernel⟩
theorem yl_X12_isTooFar : YL yX12_isTooFar cX12_isTooFar 5 (some .boolean) 1 := ⟨(gm8 (List.mem_of_getElem? (i := 136) rfl) rfl), (gm1 (List.mem_of_getElem? (i := 18) rfl) rfl), by decide, by decide, by decide +kernel⟩
theorem yl_X12_moves : YL yX12_moves cX12_moves 8 (some .int) 3 := ⟨(gm8 (List.mem_of_getElem? (i := 128) rfl) rfl), (gm1 (List.mem_of_getElem? (i := 18) rfl) rfl), by decide, by decide, by decide +kernel⟩
theorem dX12_water_0 : decode cX12_water 0 = .ok (.aload_n 0, 1) := by decide +kernel
theorem dX12_water_1 : decode cX12_water 1 = .ok (.iconst 0, 1) := by decide +kernel
theorem dX12_water_2 : decode cX12_water 2 = .ok (.putfield 1, 3) := by decide +kernel
theorem dX12_water_5 : decode cX12_water 5 = .ok (.aload_n 0, 1) := by decide +kernel
theorem dX12_water_6 : decode cX12_water 6 = .ok (.iload_n 1, 1) := by decide +kernel
theorem dX12_water_7 : decode cX12_water 7 = .ok (.iload_n 2, 1) := by decide +kernel
theorem dX12_water_8 : decode cX12_water 8 = .ok (.invokevirtual 287, 3) := by decide +kernel
theorem dX12_water_11 : decode cX12_water 11 = .ok (.ifCond .eq 20, 3) := by decide +kernel
theorem dX12_water_14 : decode cX12_water 14 = .ok (.iload_n 3, 1) := by decide +kernel
theorem dX12_water_15 : decode cX12_water 15 = .ok (.invokestatic 290, 3) := by decide +kernel
theorem dX12_water_18 : decode cX12_water 18 = .ok (.ifCond .eq 13, 3) := by decide +kernel
theorem dX12_water_21 : decode cX12_water 21 = .ok (.aload_n 0, 1) := by decide +kernel
theorem dX12_water_22 : decode cX12_water 22 = .ok (.iload_n 1, 1) := by decide +kernel
theorem dX12_water_23 : decode cX12_water 23 = .ok (.iload_n 2, 1) := by decide +kernel
theorem dX12_water_24 : decode cX12_water 24 = .ok (.iload_n 3, 1) := by decide +kernel
theorem dX12_water_25 : decode cX12_water 25 = .ok (.invokevirtual 293, 3) := by decide +kernel
theorem dX12_water_28 : decode cX12_water 28 = .ok (.goto 4, 3) := by decide +kernel
theorem dX12_water_31 : decode cX12_water 31 = .ok (.iconst (-1), 1) := by decide +kernel
theorem dX12_water_32 : decode cX12_water 32 = .ok (.ireturn, 1) := by decide +kernel
def wp_X12_water (h : AH) (a0 : Nat) (x1 : Int32) (x2 : Int32) (x3 : Int32) (post : AH → Int32 → Prop) : Prop := (ob h a0 11) ∧ (∀ hv1 : AH, hv1 = hI h a0 0 0 → ((ob hv1 a0 11) ∧ wp_X12_isCell hv1 a0 x1 x2 (fun hv2 iv3 => (iv3 = 0 → (post hv2 (-1))) ∧ (¬ iv3 = 0 → (wp_X12_isHour hv2 x3 (fun hv4 iv5 => (iv5 = 0 → (post hv4 (-1))) ∧ (¬ iv5 = 0 → ((ob hv4 a0 11) ∧ wp_X12_deep hv4 a0 x1 x2 x3 (fun hv6 iv7 => post hv6 iv7)))))))))
set_option maxRecDepth 100000 in
theorem c_X12_water (G : GG) (h : AH) (a0 : Nat) (x1 : Int32) (x2 : Int32) (x3 : Int32) (post : AH → Int32 → Prop) (hw : wp_X12_water h a0 x1 x2 x3 post) : MC G yX12_water cX12_water 4 (some .int) 2 44 h [.ref (G.1 + a0), .int x1, .int x2, .int x3] (pI post) := by
  refine MC.of (lv := [(0, .ref (G.1 + a0)), (1, .int x1), (2, .int x2), (3, .int x3)]) (by decide) (Nat.le_of_ble_eq_true rfl) rfl fun p l e R s m args below meth c C hr hnm => ?_
  unfold wp_X12_water at hw
  refine r_aload_n C dX12_water_0 0 rfl ?_
  refine r_iconst (v := 0) C dX12_water_1 (by decide) ?_
  refine r_putI C fp_RX12_1_11 hw.1 rfl dX12_water_2 ?_
  replace hw := hw.2
  refine r_toph fun hv1 ehv1 => ?_
  replace hw := hw hv1 ehv1
  refine r_aload_n C dX12_water_5 0 rfl ?_
  refine r_iload_n C dX12_water_6 1 rfl ?_
  refine r_iload_n C dX12_water_7 2 rfl ?_
  have hob := hw.1
  replace hw := hw.2
  refine r_callV C (As := [.int x1, .int x2]) (rest := []) (c_X12_isCell G hv1 a0 x1 x2 _ hw) yl_X12_isCell (gm8 (List.mem_of_getElem? (i := 34) rfl) rfl) (gm8 (List.mem_of_getElem? (i := 36) rfl) rfl) (ci := 11) rfl (by decide) (gsel (List.mem_of_getElem? (i := 66) rfl)) hob (by decide) rfl (Nat.le_of_ble_eq_true rfl) dX12_water_8 rfl (kI fun hv2 iv3 hw => ?_)
  refine r_if_eq C dX12_water_11 31 (by decide) (fun hc => ?_) (fun hc => ?_)
  · replace hw := hw.1 hc
    refine r_iconst (v := (-1)) C dX12_water_31 (by decide) ?_
    exact r_iret C hr dX12_water_32 hw
  · replace hw := hw.2 hc
    refine r_iload_n C dX12_water_14 3 rfl ?_
    refine r_callS C (As := [.int x3]) (rest := []) (c_X12_isHour G hv2 x3 _ hw) yl_X12_isHour (gm8 (List.mem_of_getElem? (i := 38) rfl) rfl) (gm8 (List.mem_of_getElem? (i := 39) rfl) rfl) (by decide) rfl (Nat.le_of_ble_eq_true rfl) dX12_water_15 rfl (kI fun hv4 iv5 hw => ?_)
    refine r_if_eq C dX12_water_18 31 (by decide) (fun hc => ?_) (fun hc => ?_)
    · replace hw := hw.1 hc
      refine r_iconst (v := (-1)) C dX12_water_31 (by decide) ?_
      exact r_iret C hr dX12_water_32 hw
    · replace hw := hw.2 hc
      refine r_aload_n C dX12_water_21 0 rfl ?_
      refine r_iload_n C dX12_water_22 1 rfl ?_
      refine r_iload_n C dX12_water_23 2 rfl ?_
      refine r_iload_n C dX12_water_24 3 rfl ?_
      have hob := hw.1
      replace hw := hw.2
      refine r_callV C (As := [.int x1, .int x2, .int x3]) (rest := []) (c_X12_deep G hv4 a0 x1 x2 x3 _ hw) yl_X12_deep (gm8 (List.mem_of_getElem? (i := 41) rfl) rfl) (gm8 (List.mem_of_getElem? (i := 43) rfl) rfl) (ci := 11) rfl (by decide) (gsel (List.mem_of_getElem? (i := 67) rfl)) hob (by decide) rfl (Nat.le_of_ble_eq_true rfl) dX12_water_25 rfl (kI fun hv6 iv7 hw => ?_)
      refine r_goto C dX12_water_28 32 (by decide) ?_
      exact r_iret C hr dX12_water_32 hw
theorem dX12_asItIs_0 : decode cX12_asItIs 0 = .ok (.iconst 0, 1) := by decide +kernel
theorem dX12_asItIs_1 : decode cX12_asItIs 1 = .ok (.istore_n 1, 1) := by decide +kernel
theorem dX12_asItIs_2 : decode cX12_asItIs 2 = .ok (.iload_n 1, 1) := by decide +kernel
theorem dX12_asItIs_3 : decode cX12_asItIs 3 = .ok (.bipush 24, 2) := by decide +kernel
theorem dX12_asItIs_5 : decode cX12_asItIs 5 = .ok (.if_icmp .ge 40, 3) := by decide +kernel
theorem dX12_asItIs_8 : decode cX12_asItIs 8 = .ok (.aload_n 0, 1) := by decide +kernel
theorem dX12_asItIs_9 : decode cX12_asItIs 9 = .ok (.getfield 50, 3) := by decide +kernel
theorem dX12_asItIs_12 : decode cX12_asItIs 12 = .ok (.iload_n 1, 1) := by decide +kernel
theorem dX12_asItIs_13 : decode cX12_asItIs 13 = .ok (.aload_n 0, 1) := by decide +kernel
theorem dX12_asItIs_14 : decode cX12_asItIs 14 = .ok (.getfield 33, 3) := by decide +kernel
theorem dX12_asItIs_17 : decode cX12_asItIs 17 = .ok (.sipush 225, 3) := by decide +kernel
theorem dX12_asItIs_20 : decode cX12_asItIs 20 = .ok (.iload_n 1, 1) := by decide +kernel
theorem dX12_asItIs_21 : decode cX12_asItIs 21 = .ok (.iadd, 1) := by decide +kernel
theorem dX12_asItIs_22 : decode cX12_asItIs 22 = .ok (.iaload, 1) := by decide +kernel
theorem dX12_asItIs_23 : decode cX12_asItIs 23 = .ok (.iastore, 1) := by decide +kernel
theorem dX12_asItIs_24 : decode cX12_asItIs 24 = .ok (.aload_n 0, 1) := by decide +kernel
theorem dX12_asItIs_25 : decode cX12_asItIs 25 = .ok (.getfield 53, 3) := by decide +kernel
theorem dX12_asItIs_28 : decode cX12_asItIs 28 = .ok (.iload_n 1, 1) := by decide +kernel
theorem dX12_asItIs_29 : decode cX12_asItIs 29 = .ok (.aload_n 0, 1) := by decide +kernel
theorem dX12_asItIs_30 : decode cX12_asItIs 30 = .ok (.getfield 33, 3) := by decide +kernel
theorem dX12_asItIs_33 : decode cX12_asItIs 33 = .ok (.bipush 99, 2) := by decide +kernel
theorem dX12_asItIs_35 : decode cX12_asItIs 35 = .ok (.iload_n 1, 1) := by decide +kernel
theorem dX12_asItIs_36 : decode cX12_asItIs 36 = .ok (.iadd, 1) := by decide +kernel
theorem dX12_asItIs_37 : decode cX12_asItIs 37 = .ok (.iaload, 1) := by decide +kernel
theorem dX12_asItIs_38 : decode cX12_asItIs 38 = .ok (.iastore, 1) := by decide +kernel
theorem dX12_asItIs_39 : decode cX12_asItIs 39 = .ok (.iinc 1 1, 3) := by decide +kernel
theorem dX12_asItIs_42 : decode cX12_asItIs 42 = .ok (.goto (-40), 3) := by decide +kernel
theorem dX12_asItIs_45 : decode cX12_asItIs 45 = .ok (.return_, 1) := by decide +kernel
def wb_X12_asItIs_2 (K2 : AH → Nat → Int32 → Prop) (h : AH) (al0 : Nat) (xl1 : Int32)  (post : AH → Prop) : Prop := (24 ≤ xl1 → (post h)) ∧ (¬ 24 ≤ xl1 → ((ob h al0 11) ∧ (∃ rv1, aP h al0 24 = some rv1 ∧ ((ob h al0 11) ∧ (∃ rv2, aP h al0 6 = some rv2 ∧ ((ob h rv2 13) ∧ ((vp_in ((225 : Int32) + xl1) (aL h rv2)) ∧ ((ob h rv1 13) ∧ ((vp_in xl1 (aL h rv1)) ∧ (∀ hv3 : AH, hv3 = hI h rv1 xl1.toNatClampNeg (aI h rv2 ((225 : Int32) + xl1).toNatClampNeg) → ((ob hv3 al0 11) ∧ (∃ rv4, aP hv3 al0 25 = some rv4 ∧ ((ob hv3 al0 11) ∧ (∃ rv5, aP hv3 al0 6 = some rv5 ∧ ((ob hv3 rv5 13) ∧ ((vp_in ((99 : Int32) + xl1) (aL hv3 rv5)) ∧ ((ob hv3 rv4 13) ∧ ((vp_in xl1 (aL hv3 rv4)) ∧ (∀ hv6 : AH, hv6 = hI hv3 rv4 xl1.toNatClampNeg (aI hv3 rv5 ((99 : Int32) + xl1).toNatClampNeg) → (∀ iv7 : Int32, iv7 = xl1 + 1 → (K2 hv6 al0 iv7)))))))))))))))))))))
set_option maxRecDepth 100000 in
theorem tb_X12_asItIs_2 {G : GG} {p : Program} {l : Launch} {e : Env} {R : Room} {s : State} {m : MethodId} {args : Array Value} {below : List Frame} {meth : Method} {c : Code} {n0 s0 : Nat} {post : AH → Prop} (C : Cx G p R s m args meth c 2 cX12_asItIs RX12 n0 s0 0 0) (hr : meth.sig.returnType = none) {K2 : AH → Nat → Int32 → Prop} (hK2 : ∀ (h : AH) (al0 : Nat) (xl1 : Int32), K2 h al0 xl1 → AW G p l e R s m args below meth c 2 (QM G (pV post) args s below n0 s0) 2 [(0, .ref (G.1 + al0)), (1, .int xl1)] [] h) {h : AH} {al0 : Nat} {xl1 : Int32}  (hw : wb_X12_asItIs_2 K2 h al0 xl1 post) : AW G p l e R s m args below meth c 2 (QM G (pV post) args s below n0 s0) 2 [(0, .ref (G.1 + al0)), (1, .int xl1)] [] h := by
  unfold wb_X12_asItIs_2 at hw
  refine r_iload_n C dX12_asItIs_2 1 rfl ?_
  refine r_bipush (v := 24) C dX12_asItIs_3 (by decide) ?_
  refine r_icmp_ge C dX12_asItIs_5 45 (by decide) (fun hc => ?_) (fun hc => ?_)
  · replace hw := hw.1 hc
    exact r_vret C hr dX12_asItIs_45 hw
  · replace hw := hw.2 hc
    refine r_aload_n C dX12_asItIs_8 0 rfl ?_
    have hob := hw.1
    obtain ⟨rv1, hp, hw⟩ := hw.2
    refine r_getP C fl_RX12_50_11 hob hp (fun _ _ _ => rfl) dX12_asItIs_9 ?_
    refine r_iload_n C dX12_asItIs_12 1 rfl ?_
    refine r_aload_n C dX12_asItIs_13 0 rfl ?_
    have hob := hw.1
    obtain ⟨rv2, hp, hw⟩ := hw.2
    refine r_getP C fl_RX12_33_11 hob hp (fun _ _ _ => rfl) dX12_asItIs_14 ?_
    refine r_sipush (v := 225) C dX12_asItIs_17 (by decide) ?_
    refine r_iload_n C dX12_asItIs_20 1 rfl ?_
    refine r_iadd C dX12_asItIs_21 ?_
    refine r_iaload C hw.1 hw.2.1 dX12_asItIs_22 ?_
    replace hw := hw.2.2
    refine r_iastore C hw.1 hw.2.1 dX12_asItIs_23 ?_
    replace hw := hw.2.2
    refine r_toph fun hv3 ehv3 => ?_
    replace hw := hw hv3 ehv3
    refine r_aload_n C dX12_asItIs_24 0 rfl ?_
    have hob := hw.1
    obtain ⟨rv4, hp, hw⟩ := hw.2
    refine r_getP C fl_RX12_53_11 hob hp (fun _ _ _ => rfl) dX12_asItIs_25 ?_
    refine r_iload_n C dX12_asItIs_28 1 rfl ?_
    refine r_aload_n C dX12_asItIs_29 0 rfl ?_
    have hob := hw.1
    obtain ⟨rv5, hp, hw⟩ := hw.2
    refine r_getP C fl_RX12_33_11 hob hp (fun _ _ _ => rfl) dX12_asItIs_30 ?_
    refine r_bipush (v := 99) C dX12_asItIs_33 (by decide) ?_
    refine r_iload_n C dX12_asItIs_35 1 rfl ?_
    refine r_iadd C dX12_asItIs_36 ?_
    refine r_iaload C hw.1 hw.2.1 dX12_asItIs_37 ?_
    replace hw := hw.2.2
    refine r_iastore C hw.1 hw.2.1 dX12_asItIs_38 ?_
    replace hw := hw.2.2
    refine r_toph fun hv6 ehv6 => ?_
    replace hw := hw hv6 ehv6
    obtain ⟨iv7, eiv7⟩ : ∃ q : Int32, q = xl1 + 1 := ⟨_, rfl⟩
    replace hw := hw iv7 eiv7
    refine r_iinc C dX12_asItIs_39 1 rfl (by rw [eiv7]; rfl) [(1, .int iv7), (0, .ref (G.1 + al0))] (by decide) rfl ?_
    refine r_goto C dX12_asItIs_42 2 (by decide) ?_
    refine r_sub [1, 0] rfl ?_
    exact hK2 _ _ _ hw
def wl_X12_asItIs_2  (post : AH → Prop) : Nat → AH → Nat → Int32 → Prop
  | 0 => fun _ _ _ => False
  | n + 1 => fun h al0 xl1 => wb_X12_asItIs_2  (wl_X12_asItIs_2  post n) h al0 xl1 post
theorem tl_X12_asItIs_2 {G : GG} {p : Program} {l : Launch} {e : Env} {R : Room} {s : State} {m : MethodId} {args : Array Value} {below : List Frame} {meth : Method} {c : Code} {n0 s0 : Nat} {post : AH → Prop} (C : Cx G p R s m args meth c 2 cX12_asItIs RX12 n0 s0 0 0) (hr : meth.sig.returnType = none)   : ∀ (n : Nat) (h : AH) (al0 : Nat) (xl1 : Int32), wl_X12_asItIs_2  post n h al0 xl1 → AW G p l e R s m args below meth c 2 (QM G (pV post) args s below n0 s0) 2 [(0, .ref (G.1 + al0)), (1, .int xl1)] [] h := by
  intro n
  induction n with
  | zero => intro h al0 xl1 hw; exact hw.elim
  | succ n ih => intro h al0 xl1 hw; exact tb_X12_asItIs_2 C hr  ih hw
def wp_X12_asItIs (h : AH) (a0 : Nat) (post : AH → Prop) : Prop := ∃ n, wl_X12_asItIs_2  post n h a0 0
set_option maxRecDepth 100000 in
theorem c_X12_asItIs (G : GG) (h : AH) (a0 : Nat) (post : AH → Prop) (hw : wp_X12_asItIs h a0 post) : MC G yX12_asItIs cX12_asItIs 2 none 0 0 h [.ref (G.1 + a0)] (pV post) := by
  refine MC.of (lv := [(0, .ref (G.1 + a0))]) (by decide) (Nat.le_of_ble_eq_true rfl) rfl fun p l e R s m args below meth c C hr hnm => ?_
  unfold wp_X12_asItIs at hw
  refine r_iconst (v := 0) C dX12_asItIs_0 (by decide) ?_
  refine r_istore_n C dX12_asItIs_1 [(1, .int 0), (0, .ref (G.1 + a0))] (by decide) rfl ?_
  refine r_sub [1, 0] rfl ?_
  obtain ⟨n, hw⟩ := hw
  exact tl_X12_asItIs_2 C hr  n _ _ _ hw
theorem dX12_isOn_0 : decode cX12_isOn 0 = .ok (.iload_n 2, 1) := by decide +kernel
theorem dX12_isOn_1 : decode cX12_isOn 1 = .ok (.aload_n 0, 1) := by decide +kernel
theorem dX12_isOn_2 : decode cX12_isOn 2 = .ok (.getfield 50, 3) := by decide +kernel
theorem dX12_isOn_5 : decode cX12_isOn 5 = .ok (.iconst 3, 1) := by decide +kernel
theorem dX12_isOn_6 : decode cX12_isOn 6 = .ok (.iload_n 1, 1) := by decide +kernel
theorem dX12_isOn_7 : decode cX12_isOn 7 = .ok (.imul, 1) := by decide +kernel
theorem dX12_isOn_8 : decode cX12_isOn 8 = .ok (.iaload, 1) := by decide +kernel
theorem dX12_isOn_9 : decode cX12_isOn 9 = .ok (.if_icmp .lt 59, 3) := by decide +kernel
theorem dX12_isOn_12 : decode cX12_isOn 12 = .ok (.iload_n 2, 1) := by decide +kernel
theorem dX12_isOn_13 : decode cX12_isOn 13 = .ok (.aload_n 0, 1) := by decide +kernel
theorem dX12_isOn_14 : decode cX12_isOn 14 = .ok (.getfield 50, 3) := by decide +kernel
theorem dX12_isOn_17 : decode cX12_isOn 17 = .ok (.iconst 3, 1) := by decide +kernel
theorem dX12_isOn_18 : decode cX12_isOn 18 = .ok (.iload_n 1, 1) := by decide +kernel
theorem dX12_isOn_19 : decode cX12_isOn 19 = .ok (.imul, 1) := by decide +kernel
theorem dX12_isOn_20 : decode cX12_isOn 20 = .ok (.iaload, 1) := by decide +kernel
theorem dX12_isOn_21 : decode cX12_isOn 21 = .ok (.aload_n 0, 1) := by decide +kernel
theorem dX12_isOn_22 : decode cX12_isOn 22 = .ok (.iload_n 1, 1) := by decide +kernel
theorem dX12_isOn_23 : decode cX12_isOn 23 = .ok (.invokevirtual 297, 3) := by decide +kernel
theorem dX12_isOn_26 : decode cX12_isOn 26 = .ok (.iadd, 1) := by decide +kernel
theorem dX12_isOn_27 : decode cX12_isOn 27 = .ok (.if_icmp .ge 41, 3) := by decide +kernel
theorem dX12_isOn_30 : decode cX12_isOn 30 = .ok (.iload_n 3, 1) := by decide +kernel
theorem dX12_isOn_31 : decode cX12_isOn 31 = .ok (.aload_n 0, 1) := by decide +kernel
theorem dX12_isOn_32 : decode cX12_isOn 32 = .ok (.getfield 50, 3) := by decide +kernel
theorem dX12_isOn_35 : decode cX12_isOn 35 = .ok (.iconst 3, 1) := by decide +kernel
theorem dX12_isOn_36 : decode cX12_isOn 36 = .ok (.iload_n 1, 1) := by decide +kernel
theorem dX12_isOn_37 : decode cX12_isOn 37 = .ok (.imul, 1) := by decide +kernel
theorem dX12_isOn_38 : decode cX12_isOn 38 = .ok (.iconst 1, 1) := by decide +kernel
theorem dX12_isOn_39 : decode cX12_isOn 39 = .ok (.iadd, 1) := by decide +kernel
theorem dX12_isOn_40 : decode cX12_isOn 40 = .ok (.iaload, 1) := by decide +kernel
theorem dX12_isOn_41 : decode cX12_isOn 41 = .ok (.if_icmp .lt 27, 3) := by decide +kernel
theorem dX12_isOn_44 : decode cX12_isOn 44 = .ok (.iload_n 3, 1) := by decide +kernel
theorem dX12_isOn_45 : decode cX12_isOn 45 = .ok (.aload_n 0, 1) := by decide +kernel
theorem dX12_isOn_46 : decode cX12_isOn 46 = .ok (.getfield 50, 3) := by decide +kernel
theorem dX12_isOn_49 : decode cX12_isOn 49 = .ok (.iconst 3, 1) := by decide +kernel
theorem dX12_isOn_50 : decode cX12_isOn 50 = .ok (.iload_n 1, 1) := by decide +kernel
theorem dX12_isOn_51 : decode cX12_isOn 51 = .ok (.imul, 1) := by decide +kernel
theorem dX12_isOn_52 : decode cX12_isOn 52 = .ok (.iconst 1, 1) := by decide +kernel
theorem dX12_isOn_53 : decode cX12_isOn 53 = .ok (.iadd, 1) := by decide +kernel
theorem dX12_isOn_54 : decode cX12_isOn 54 = .ok (.iaload, 1) := by decide +kernel
theorem dX12_isOn_55 : decode cX12_isOn 55 = .ok (.aload_n 0, 1) := by decide +kernel
theorem dX12_isOn_56 : decode cX12_isOn 56 = .ok (.iload_n 1, 1) := by decide +kernel
theorem dX12_isOn_57 : decode cX12_isOn 57 = .ok (.invokevirtual 300, 3) := by decide +kernel
theorem dX12_isOn_60 : decode cX12_isOn 60 = .ok (.iadd, 1) := by decide +kernel
theorem dX12_isOn_61 : decode cX12_isOn 61 = .ok (.if_icmp .ge 7, 3) := by decide +kernel
theorem dX12_isOn_64 : decode cX12_isOn 64 = .ok (.iconst 1, 1) := by decide +kernel
theorem dX12_isOn_65 : decode cX12_isOn 65 = .ok (.goto 4, 3) := by decide +kernel
theorem dX12_isOn_68 : decode cX12_isOn 68 = .ok (.iconst 0, 1) := by decide +kernel
theorem dX12_isOn_69 : decode cX12_isOn 69 = .ok (.ireturn, 1) := by decide +kernel
def wp_X12_isOn (h : AH) (a0 : Nat) (x1 : Int32) (x2 : Int32) (x3 : Int32) (post : AH → Int32 → Prop) : Prop := (ob h a0 11) ∧ (∃ rv1, aP h a0 24 = some rv1 ∧ ((ob h rv1 13) ∧ ((vp_in ((3 : Int32) * x1) (aL h rv1)) ∧ ((x2 < (aI h rv1 ((3 : Int32) * x1).toNatClampNeg) → (((0 : Int32) = 0 ∨ (0 : Int32) = 1) ∧ post h 0)) ∧ (¬ x2 < (aI h rv1 ((3 : Int32) * x1).toNatClampNeg) → ((ob h a0 11) ∧ (∃ rv2, aP h a0 24 = some rv2 ∧ ((ob h rv2 13) ∧ ((vp_in ((3 : Int32) * x1) (aL h rv2)) ∧ ((ob h a0 11) ∧ wp_X12_wide h a0 x1 (fun hv3 iv4 => (((aI h rv2 ((3 : Int32) * x1).toNatClampNeg) + iv4) ≤ x2 → (((0 : Int32) = 0 ∨ (0 : Int32) = 1) ∧ post hv3 0)) ∧ (¬ ((aI h rv2 ((3 : Int32) * x1).toNatClampNeg) + iv4) ≤ x2 → ((ob hv3 a0 11) ∧ (∃ rv5, aP hv3 a0 24 = some rv5 ∧ ((ob hv3 rv5 13) ∧ ((vp_in (((3 : Int32) * x1) + (1 : Int32)) (aL hv3 rv5)) ∧ ((x3 < (aI hv3 rv5 (((3 : Int32) * x1) + (1 : Int32)).toNatClampNeg) → (((0 : Int32) = 0 ∨ (0 : Int32) = 1) ∧ post hv3 0)) ∧ (¬ x3 < (aI hv3 rv5 (((3 : Int32) * x1) + (1 : Int32)).toNatClampNeg) → ((ob hv3 a0 11) ∧ (∃ rv6, aP hv3 a0 24 = some rv6 ∧ ((ob hv3 rv6 13) ∧ ((vp_in (((3 : Int32) * x1) + (1 : Int32)) (aL hv3 rv6)) ∧ ((ob hv3 a0 11) ∧ wp_X12_high hv3 a0 x1 (fun hv7 iv8 => (((aI hv3 rv6 (((3 : Int32) * x1) + (1 : Int32)).toNatClampNeg) + iv8) ≤ x3 → (((0 : Int32) = 0 ∨ (0 : Int32) = 1) ∧ post hv7 0)) ∧ (¬ ((aI hv3 rv6 (((3 : Int32) * x1) + (1 : Int32)).toNatClampNeg) + iv8) ≤ x3 → (((1 : Int32) = 0 ∨ (1 : Int32) = 1) ∧ post hv7 1))))))))))))))))))))))))))
set_option maxRecDepth 100000 in
theorem c_X12_isOn (G : GG) (h : AH) (a0 : Nat) (x1 : Int32) (x2 : Int32) (x3 : Int32) (post : AH → Int32 → Prop) (hw : wp_X12_isOn h a0 x1 x2 x3 post) : MC G yX12_isOn cX12_isOn 4 (some .boolean) 1 21 h [.ref (G.1 + a0), .int x1, .int x2, .int x3] (pI post) := by
  refine MC.of (lv := [(0, .ref (G.1 + a0)), (1, .int x1), (2, .int x2), (3, .int x3)]) (by decide) (Nat.le_of_ble_eq_true rfl) rfl fun p l e R s m args below meth c C hr hnm => ?_
  unfold wp_X12_isOn at hw
  refine r_iload_n C dX12_isOn_0 2 rfl ?_
  refine r_aload_n C dX12_isOn_1 0 rfl ?_
  have hob := hw.1
  obtain ⟨rv1, hp, hw⟩ := hw.2
  refine r_getP C fl_RX12_50_11 hob hp (fun _ _ _ => rfl) dX12_isOn_2 ?_
  refine r_iconst (v := 3) C dX12_isOn_5 (by decide) ?_
  refine r_iload_n C dX12_isOn_6 1 rfl ?_
  refine r_imul C dX12_isOn_7 ?_
  refine r_iaload C hw.1 hw.2.1 dX12_isOn_8 ?_
  replace hw := hw.2.2
  refine r_icmp_lt C dX12_isOn_9 68 (by decide) (fun hc => ?_) (fun hc => ?_)
  · replace hw := hw.1 hc
    refine r_iconst (v := 0) C dX12_isOn_68 (by decide) ?_
    exact r_zret C hr dX12_isOn_69 hw.1 hw.2
  · replace hw := hw.2 hc
    refine r_iload_n C dX12_isOn_12 2 rfl ?_
    refine r_aload_n C dX12_isOn_13 0 rfl ?_
    have hob := hw.1
    obtain ⟨rv2, hp, hw⟩ := hw.2
    refine r_getP C fl_RX12_50_11 hob hp (fun _ _ _ => rfl) dX12_isOn_14 ?_
    refine r_iconst (v := 3) C dX12_isOn_17 (by decide) ?_
    refine r_iload_n C dX12_isOn_18 1 rfl ?_
    refine r_imul C dX12_isOn_19 ?_
    refine r_iaload C hw.1 hw.2.1 dX12_isOn_20 ?_
    replace hw := hw.2.2
    refine r_aload_n C dX12_isOn_21 0 rfl ?_
    refine r_iload_n C dX12_isOn_22 1 rfl ?_
    have hob := hw.1
    replace hw := hw.2
    refine r_callV C (As := [.int x1]) (rest := [.int (aI h rv2 ((3 : Int32) * x1).toNatClampNeg), .int x2]) (c_X12_wide G h a0 x1 _ hw) yl_X12_wide (gm7 (List.mem_of_getElem? (i := 227) rfl) rfl) (gm7 (List.mem_of_getElem? (i := 229) rfl) rfl) (ci := 11) rfl (by decide) (gsel (List.mem_of_getElem? (i := 57) rfl)) hob (by decide) rfl (Nat.le_of_ble_eq_true rfl) dX12_isOn_23 rfl (kI fun hv3 iv4 hw => ?_)
    refine r_iadd C dX12_isOn_26 ?_
    refine r_icmp_ge C dX12_isOn_27 68 (by decide) (fun hc => ?_) (fun hc => ?_)
    · replace hw := hw.1 hc
      refine r_iconst (v := 0) C dX12_isOn_68 (by decide) ?_
      exact r_zret C hr dX12_isOn_69 hw.1 hw.2
    · replace hw := hw.2 hc
      refine r_iload_n C dX12_isOn_30 3 rfl ?_
      refine r_aload_n C dX12_isOn_31 0 rfl ?_
      have hob := hw.1
      obtain ⟨rv5, hp, hw⟩ := hw.2
      refine r_getP C fl_RX12_50_11 hob hp (fun _ _ _ => rfl) dX12_isOn_32 ?_
      refine r_iconst (v := 3) C dX12_isOn_35 (by decide) ?_
      refine r_iload_n C dX12_isOn_36 1 rfl ?_
      refine r_imul C dX12_isOn_37 ?_
      refine r_iconst (v := 1) C dX12_isOn_38 (by decide) ?_
      refine r_iadd C dX12_isOn_39 ?_
      refine r_iaload C hw.1 hw.2.1 dX12_isOn_40 ?_
      replace hw := hw.2.2
      refine r_icmp_lt C dX12_isOn_41 68 (by decide) (fun hc => ?_) (fun hc => ?_)
      · replace hw := hw.1 hc
        refine r_iconst (v := 0) C dX12_isOn_68 (by decide) ?_
        exact r_zret C hr dX12_isOn_69 hw.1 hw.2
      · replace hw := hw.2 hc
        refine r_iload_n C dX12_isOn_44 3 rfl ?_
        refine r_aload_n C dX12_isOn_45 0 rfl ?_
        have hob := hw.1
        obtain ⟨rv6, hp, hw⟩ := hw.2
        refine r_getP C fl_RX12_50_11 hob hp (fun _ _ _ => rfl) dX12_isOn_46 ?_
        refine r_iconst (v := 3) C dX12_isOn_49 (by decide) ?_
        refine r_iload_n C dX12_isOn_50 1 rfl ?_
        refine r_imul C dX12_isOn_51 ?_
        refine r_iconst (v := 1) C dX12_isOn_52 (by decide) ?_
        refine r_iadd C dX12_isOn_53 ?_
        refine r_iaload C hw.1 hw.2.1 dX12_isOn_54 ?_
        replace hw := hw.2.2
        refine r_aload_n C dX12_isOn_55 0 rfl ?_
        refine r_iload_n C dX12_isOn_56 1 rfl ?_
        have hob := hw.1
        replace hw := hw.2
        refine r_callV C (As := [.int x1]) (rest := [.int (aI hv3 rv6 (((3 : Int32) * x1) + (1 : Int32)).toNatClampNeg), .int x3]) (c_X12_high G hv3 a0 x1 _ hw) yl_X12_high (gm7 (List.mem_of_getElem? (i := 234) rfl) rfl) (gm7 (List.mem_of_getElem? (i := 236) rfl) rfl) (ci := 11) rfl (by decide) (gsel (List.mem_of_getElem? (i := 58) rfl)) hob (by decide) rfl (Nat.le_of_ble_eq_true rfl) dX12_isOn_57 rfl (kI fun hv7 iv8 hw => ?_)
        refine r_iadd C dX12_isOn_60 ?_
        refine r_icmp_ge C dX12_isOn_61 68 (by decide) (fun hc => ?_) (fun hc => ?_)
        · replace hw := hw.1 hc
          refine r_iconst (v := 0) C dX12_isOn_68 (by decide) ?_
          exact r_zret C hr dX12_isOn_69 hw.1 hw.2
        · replace hw := hw.2 hc
          refine r_iconst (v := 1) C dX12_isOn_64 (by decide) ?_
          refine r_goto C dX12_isOn_65 69 (by decide) ?_
          exact r_zret C hr dX12_isOn_69 hw.1 hw.2
theorem dX12_isInside_0 : decode cX12_isInside 0 = .ok (.aload_n 0, 1) := by decide +kernel
theorem dX12_isInside_1 : decode cX12_isInside 1 = .ok (.getfield 50, 3) := by decide +kernel
theorem dX12_isInside_4 : decode cX12_isInside 4 = .ok (.iconst 3, 1) := by decide +kernel
theorem dX12_isInside_5 : decode cX12_isInside 5 = .ok (.iload_n 1, 1) := by decide +kernel
theorem dX12_isInside_6 : decode cX12_isInside 6 = .ok (.imul, 1) := by decide +kernel
theorem dX12_isInside_7 : decode cX12_isInside 7 = .ok (.iaload, 1) := by decide +kernel
theorem dX12_isInside_8 : decode cX12_isInside 8 = .ok (.ifCond .lt 68, 3) := by decide +kernel
theorem dX12_isInside_11 : decode cX12_isInside 11 = .ok (.aload_n 0, 1) := by decide +kernel
theorem dX12_isInside_12 : decode cX12_isInside 12 = .ok (.getfield 50, 3) := by decide +kernel
theorem dX12_isInside_15 : decode cX12_isInside 15 = .ok (.iconst 3, 1) := by decide +kernel
theorem dX12_isInside_16 : decode cX12_isInside 16 = .ok (.iload_n 1, 1) := by decide +kernel
theorem dX12_isInside_17 : decode cX12_isInside 17 = .ok (.imul, 1) := by decide +kernel
theorem dX12_isInside_18 : decode cX12_isInside 18 = .ok (.iconst 1, 1) := by decide +kernel
theorem dX12_isInside_19 : decode cX12_isInside 19 = .ok (.iadd, 1) := by decide +kernel
theorem dX12_isInside_20 : decode cX12_isInside 20 = .ok (.iaload, 1) := by decide +kernel
theorem dX12_isInside_21 : decode cX12_isInside 21 = .ok (.ifCond .lt 55, 3) := by decide +kernel
theorem dX12_isInside_24 : decode cX12_isInside 24 = .ok (.aload_n 0, 1) := by decide +kernel
theorem dX12_isInside_25 : decode cX12_isInside 25 = .ok (.getfield 50, 3) := by decide +kernel
theorem dX12_isInside_28 : decode cX12_isInside 28 = .ok (.iconst 3, 1) := by decide +kernel
theorem dX12_isInside_29 : decode cX12_isInside 29 = .ok (.iload_n 1, 1) := by decide +kernel
theorem dX12_isInside_30 : decode cX12_isInside 30 = .ok (.imul, 1) := by decide +kernel
theorem dX12_isInside_31 : decode cX12_isInside 31 = .ok (.iaload, 1) := by decide +kernel
theorem dX12_isInside_32 : decode cX12_isInside 32 = .ok (.aload_n 0, 1) := by decide +kernel
theorem dX12_isInside_33 : decode cX12_isInside 33 = .ok (.iload_n 1, 1) := by decide +kernel
theorem dX12_isInside_34 : decode cX12_isInside 34 = .ok (.invokevirtual 297, 3) := by decide +kernel
theorem dX12_isInside_37 : decode cX12_isInside 37 = .ok (.iadd, 1) := by decide +kernel
theorem dX12_isInside_38 : decode cX12_isInside 38 = .ok (.aload_n 0, 1) := by decide +kernel
theorem dX12_isInside_39 : decode cX12_isInside 39 = .ok (.getfield 33, 3) := by decide +kernel
theorem dX12_isInside_42 : decode cX12_isInside 42 = .ok (.iconst 0, 1) := by decide +kernel
theorem dX12_isInside_43 : decode cX12_isInside 43 = .ok (.iaload, 1) := by decide +kernel
theorem dX12_isInside_44 : decode cX12_isInside 44 = .ok (.if_icmp .gt 32, 3) := by decide +kernel
theorem dX12_isInside_47 : decode cX12_isInside 47 = .ok (.aload_n 0, 1) := by decide +kernel
theorem dX12_isInside_48 : decode cX12_isInside 48 = .ok (.getfield 50, 3) := by decide +kernel
theorem dX12_isInside_51 : decode cX12_isInside 51 = .ok (.iconst 3, 1) := by decide +kernel
theorem dX12_isInside_52 : decode cX12_isInside 52 = .ok (.iload_n 1, 1) := by decide +kernel
theorem dX12_isInside_53 : decode cX12_isInside 53 = .ok (.imul, 1) := by decide +kernel
theorem dX12_isInside_54 : decode cX12_isInside 54 = .ok (.iconst 1, 1) := by decide +kernel
theorem dX12_isInside_55 : decode cX12_isInside 55 = .ok (.iadd, 1) := by decide +kernel
theorem dX12_isInside_56 : decode cX12_isInside 56 = .ok (.iaload, 1) := by decide +kernel
theorem dX12_isInside_57 : decode cX12_isInside 57 = .ok (.aload_n 0, 1) := by decide +kernel
theorem dX12_isInside_58 : decode cX12_isInside 58 = .ok (.iload_n 1, 1) := by decide +kernel
theorem dX12_isInside_59 : decode cX12_isInside 59 = .ok (.invokevirtual 300, 3) := by decide +kernel
theorem dX12_isInside_62 : decode cX12_isInside 62 = .ok (.iadd, 1) := by decide +kernel
theorem dX12_isInside_63 : decode cX12_isInside 63 = .ok (.aload_n 0, 1) := by decide +kernel
theorem dX12_isInside_64 : decode cX12_isInside 64 = .ok (.getfield 33, 3) := by decide +kernel
theorem dX12_isInside_67 : decode cX12_isInside 67 = .ok (.iconst 1, 1) := by decide +kernel
theorem dX12_isInside_68 : decode cX12_isInside 68 = .ok (.iaload, 1) := by decide +kernel
theorem dX12_isInside_69 : decode cX12_isInside 69 = .ok (.if_icmp .gt 7, 3) := by decide +kernel
theorem dX12_isInside_72 : decode cX12_isInside 72 = .ok (.iconst 1, 1) := by decide +kernel
theorem dX12_isInside_73 : decode cX12_isInside 73 = .ok (.goto 4, 3) := by decide +kernel
theorem dX12_isInside_76 : decode cX12_isInside 76 = .ok (.iconst 0, 1) := by decide +kernel
theorem dX12_isInside_77 : decode cX12_isInside 77 = .ok (.ireturn, 1) := by decide +kernel
def wp_X12_isInside (h : AH) (a0 : Nat) (x1 : Int32) (post : AH → Int32 → Prop) : Prop := (ob h a0 11) ∧ (∃ rv1, aP h a0 24 = some rv1 ∧ ((ob h rv1 13) ∧ ((vp_in ((3 : Int32) * x1) (aL h rv1)) ∧ (((aI h rv1 ((3 : Int32) * x1).toNatClampNeg) < 0 → (((0 : Int32) = 0 ∨ (0 : Int32) = 1) ∧ post h 0)) ∧ (¬ (aI h rv1 ((3 : Int32) * x1).toNatClampNeg) < 0 → ((ob h a0 11) ∧ (∃ rv2, aP h a0 24 = some rv2 ∧ ((ob h rv2 13) ∧ ((vp_in (((3 : Int32) * x1) + (1 : Int32)) (aL h rv2)) ∧ (((aI h rv2 (((3 : Int32) * x1) + (1 : Int32)).toNatClampNeg) < 0 → (((0 : Int32) = 0 ∨ (0 : Int32) = 1) ∧ post h 0)) ∧ (¬ (aI h rv2 (((3 : Int32) * x1) + (1 : Int32)).toNatClampNeg) < 0 → ((ob h a0 11) ∧ (∃ rv3, aP h a0 24 = some rv3 ∧ ((ob h rv3 13) ∧ ((vp_in ((3 : Int32) * x1) (aL h rv3)) ∧ ((ob h a0 11) ∧ wp_X12_wide h a0 x1 (fun hv4 iv5 => (ob hv4 a0 11) ∧ (∃ rv6, aP hv4 a0 6 = some rv6 ∧ ((ob hv4 rv6 13) ∧ ((vp_in 0 (aL hv4 rv6)) ∧ (((aI hv4 rv6 (0 : Int32).toNatClampNeg) < ((aI h rv3 ((3 : Int32) * x1).toNatClampNeg) + iv5) → (((0 : Int32) = 0 ∨ (0 : Int32) = 1) ∧ post hv4 0)) ∧ (¬ (aI hv4 rv6 (0 : Int32).toNatClampNeg) < ((aI h rv3 ((3 : Int32) * x1).toNatClampNeg) + iv5) → ((ob hv4 a0 11) ∧ (∃ rv7, aP hv4 a0 24 = some rv7 ∧ ((ob hv4 rv7 13) ∧ ((vp_in (((3 : Int32) * x1) + (1 : Int32)) (aL hv4 rv7)) ∧ ((ob hv4 a0 11) ∧ wp_X12_high hv4 a0 x1 (fun hv8 iv9 => (ob hv8 a0 11) ∧ (∃ rv10, aP hv8 a0 6 = some rv10 ∧ ((ob hv8 rv10 13) ∧ ((vp_in 1 (aL hv8 rv10)) ∧ (((aI hv8 rv10 (1 : Int32).toNatClampNeg) < ((aI hv4 rv7 (((3 : Int32) * x1) + (1 : Int32)).toNatClampNeg) + iv9) → (((0 : Int32) = 0 ∨ (0 : Int32) = 1) ∧ post hv8 0)) ∧ (¬ (aI hv8 rv10 (1 : Int32).toNatClampNeg) < ((aI hv4 rv7 (((3 : Int32) * x1) + (1 : Int32)).toNatClampNeg) + iv9) → (((1 : Int32) = 0 ∨ (1 : Int32) = 1) ∧ post hv8 1))))))))))))))))))))))))))))))))))
set_option maxRecDepth 100000 in
theorem c_X12_isInside (G : GG) (h : AH) (a0 : Nat) (x1 : Int32) (post : AH → Int32 → Prop) (hw : wp_X12_isInside h a0 x1 post) : MC G yX12_isInside cX12_isInside 2 (some .boolean) 1 21 h [.ref (G.1 + a0), .int x1] (pI post) := by
  refine MC.of (lv := [(0, .ref (G.1 + a0)), (1, .int x1)]) (by decide) (Nat.le_of_ble_eq_true rfl) rfl fun p l e R s m args below meth c C hr hnm => ?_
  unfold wp_X12_isInside at hw
  refine r_aload_n C dX12_isInside_0 0 rfl ?_
  have hob := hw.1
  obtain ⟨rv1, hp, hw⟩ := hw.2
  refine r_getP C fl_RX12_50_11 hob hp (fun _ _ _ => rfl) dX12_isInside_1 ?_
  refine r_iconst (v := 3) C dX12_isInside_4 (by decide) ?_
  refine r_iload_n C dX12_isInside_5 1 rfl ?_
  refine r_imul C dX12_isInside_6 ?_
  refine r_iaload C hw.1 hw.2.1 dX12_isInside_7 ?_
  replace hw := hw.2.2
  refine r_if_lt C dX12_isInside_8 76 (by decide) (fun hc => ?_) (fun hc => ?_)
  · replace hw := hw.1 hc
    refine r_iconst (v := 0) C dX12_isInside_76 (by decide) ?_
    exact r_zret C hr dX12_isInside_77 hw.1 hw.2
  · replace hw := hw.2 hc
    refine r_aload_n C dX12_isInside_11 0 rfl ?_
    have hob := hw.1
    obtain ⟨rv2, hp, hw⟩ := hw.2
    refine r_getP C fl_RX12_50_11 hob hp (fun _ _ _ => rfl) dX12_isInside_12 ?_
    refine r_iconst (v := 3) C dX12_isInside_15 (by decide) ?_
    refine r_iload_n C dX12_isInside_16 1 rfl ?_
    refine r_imul C dX12_isInside_17 ?_
    refine r_iconst (v := 1) C dX12_isInside_18 (by decide) ?_
    refine r_iadd C dX12_isInside_19 ?_
    refine r_iaload C hw.1 hw.2.1 dX12_isInside_20 ?_
    replace hw := hw.2.2
    refine r_if_lt C dX12_isInside_21 76 (by decide) (fun hc => ?_) (fun hc => ?_)
    · replace hw := hw.1 hc
      refine r_iconst (v := 0) C dX12_isInside_76 (by decide) ?_
      exact r_zret C hr dX12_isInside_77 hw.1 hw.2
    · replace hw := hw.2 hc
      refine r_aload_n C dX12_isInside_24 0 rfl ?_
      have hob := hw.1
      obtain ⟨rv3, hp, hw⟩ := hw.2
      refine r_getP C fl_RX12_50_11 hob hp (fun _ _ _ => rfl) dX12_isInside_25 ?_
      refine r_iconst (v := 3) C dX12_isInside_28 (by decide) ?_
      refine r_iload_n C dX12_isInside_29 1 rfl ?_
      refine r_imul C dX12_isInside_30 ?_
      refine r_iaload C hw.1 hw.2.1 dX12_isInside_31 ?_
      replace hw := hw.2.2
      refine r_aload_n C dX12_isInside_32 0 rfl ?_
      refine r_iload_n C dX12_isInside_33 1 rfl ?_
      have hob := hw.1
      replace hw := hw.2
      refine r_callV C (As := [.int x1]) (rest := [.int (aI h rv3 ((3 : Int32) * x1).toNatClampNeg)]) (c_X12_wide G h a0 x1 _ hw) yl_X12_wide (gm7 (List.mem_of_getElem? (i := 227) rfl) rfl) (gm7 (List.mem_of_getElem? (i := 229) rfl) rfl) (ci := 11) rfl (by decide) (gsel (List.mem_of_getElem? (i := 57) rfl)) hob (by decide) rfl (Nat.le_of_ble_eq_true rfl) dX12_isInside_34 rfl (kI fun hv4 iv5 hw => ?_)
      refine r_iadd C dX12_isInside_37 ?_
      refine r_aload_n C dX12_isInside_38 0 rfl ?_
      have hob := hw.1
      obtain ⟨rv6, hp, hw⟩ := hw.2
      refine r_getP C fl_RX12_33_11 hob hp (fun _ _ _ => rfl) dX12_isInside_39 ?_
      refine r_iconst (v := 0) C dX12_isInside_42 (by decide) ?_
      refine r_iaload C hw.1 hw.2.1 dX12_isInside_43 ?_
      replace hw := hw.2.2
      refine r_icmp_gt C dX12_isInside_44 76 (by decide) (fun hc => ?_) (fun hc => ?_)
      · replace hw := hw.1 hc
        refine r_iconst (v := 0) C dX12_isInside_76 (by decide) ?_
        exact r_zret C hr dX12_isInside_77 hw.1 hw.2
      · replace hw := hw.2 hc
        refine r_aload_n C dX12_isInside_47 0 rfl ?_
        have hob := hw.1
        obtain ⟨rv7, hp, hw⟩ := hw.2
        refine r_getP C fl_RX12_50_11 hob hp (fun _ _ _ => rfl) dX12_isInside_48 ?_
        refine r_iconst (v := 3) C dX12_isInside_51 (by decide) ?_
        refine r_iload_n C dX12_isInside_52 1 rfl ?_
        refine r_imul C dX12_isInside_53 ?_
        refine r_iconst (v := 1) C dX12_isInside_54 (by decide) ?_
        refine r_iadd C dX12_isInside_55 ?_
        refine r_iaload C hw.1 hw.2.1 dX12_isInside_56 ?_
        replace hw := hw.2.2
        refine r_aload_n C dX12_isInside_57 0 rfl ?_
        refine r_iload_n C dX12_isInside_58 1 rfl ?_
        have hob := hw.1
        replace hw := hw.2
        refine r_callV C (As := [.int x1]) (rest := [.int (aI hv4 rv7 (((3 : Int32) * x1) + (1 : Int32)).toNatClampNeg)]) (c_X12_high G hv4 a0 x1 _ hw) yl_X12_high (gm7 (List.mem_of_getElem? (i := 234) rfl) rfl) (gm7 (List.mem_of_getElem? (i := 236) rfl) rfl) (ci := 11) rfl (by decide) (gsel (List.mem_of_getElem? (i := 58) rfl)) hob (by decide) rfl (Nat.le_of_ble_eq_true rfl) dX12_isInside_59 rfl (kI fun hv8 iv9 hw => ?_)
        refine r_iadd C dX12_isInside_62 ?_
        refine r_aload_n C dX12_isInside_63 0 rfl ?_
        have hob := hw.1
        obtain ⟨rv10, hp, hw⟩ := hw.2
        refine r_getP C fl_RX12_33_11 hob hp (fun _ _ _ => rfl) dX12_isInside_64 ?_
        refine r_iconst (v := 1) C dX12_isInside_67 (by decide) ?_
        refine r_iaload C hw.1 hw.2.1 dX12_isInside_68 ?_
        replace hw := hw.2.2
        refine r_icmp_gt C dX12_isInside_69 76 (by decide) (fun hc => ?_) (fun hc => ?_)
        · replace hw := hw.1 hc
          refine r_iconst (v := 0) C dX12_isInside_76 (by decide) ?_
          exact r_zret C hr dX12_isInside_77 hw.1 hw.2
        · replace hw := hw.2 hc
          refine r_iconst (v := 1) C dX12_isInside_72 (by decide) ?_
          refine r_goto C dX12_isInside_73 77 (by decide) ?_
          exact r_zret C hr dX12_isInside_77 hw.1 hw.2
theorem dX12_isOver_0 : decode cX12_isOver 0 = .ok (.aload_n 0, 1) := by decide +kernel
theorem dX12_isOver_1 : decode cX12_isOver 1 = .ok (.getfield 50, 3) := by decide +kernel
theorem dX12_isOver_4 : decode cX12_isOver 4 = .ok (.iconst 3, 1) := by decide +kernel
theorem dX12_isOver_5 : decode cX12_isOver 5 = .ok (.iload_n 1, 1) := by decide +kernel
theorem dX12_isOver_6 : decode cX12_isOver 6 = .ok (.imul, 1) := by decide +kernel
theorem dX12_isOver_7 : decode cX12_isOver 7 = .ok (.iaload, 1) := by decide +kernel
theorem dX12_isOver_8 : decode cX12_isOver 8 = .ok (.aload_n 0, 1) := by decide +kernel
theorem dX12_isOver_9 : decode cX12_isOver 9 = .ok (.getfield 50, 3) := by decide +kernel
theorem dX12_isOver_12 : decode cX12_isOver 12 = .ok (.iconst 3, 1) := by decide +kernel
theorem dX12_isOver_13 : decode cX12_isOver 13 = .ok (.iload_n 2, 1) := by decide +kernel
theorem dX12_isOver_14 : decode cX12_isOver 14 = .ok (.imul, 1) := by decide +kernel
theorem dX12_isOver_15 : decode cX12_isOver 15 = .ok (.iaload, 1) := by decide +kernel
theorem dX12_isOver_16 : decode cX12_isOver 16 = .ok (.aload_n 0, 1) := by decide +kernel
theorem dX12_isOver_17 : decode cX12_isOver 17 = .ok (.iload_n 2, 1) := by decide +kernel
theorem dX12_isOver_18 : decode cX12_isOver 18 = .ok (.invokevirtual 297, 3) := by decide +kernel
theorem dX12_isOver_21 : decode cX12_isOver 21 = .ok (.iadd, 1) := by decide +kernel
theorem dX12_isOver_22 : decode cX12_isOver 22 = .ok (.if_icmp .ge 90, 3) := by decide +kernel
theorem dX12_isOver_25 : decode cX12_isOver 25 = .ok (.aload_n 0, 1) := by decide +kernel
theorem dX12_isOver_26 : decode cX12_isOver 26 = .ok (.getfield 50, 3) := by decide +kernel
theorem dX12_isOver_29 : decode cX12_isOver 29 = .ok (.iconst 3, 1) := by decide +kernel
theorem dX12_isOver_30 : decode cX12_isOver 30 = .ok (.iload_n 2, 1) := by decide +kernel
theorem dX12_isOver_31 : decode cX12_isOver 31 = .ok (.imul, 1) := by decide +kernel
theorem dX12_isOver_32 : decode cX12_isOver 32 = .ok (.iaload, 1) := by decide +kernel
theorem dX12_isOver_33 : decode cX12_isOver 33 = .ok (.aload_n 0, 1) := by decide +kernel
theorem dX12_isOver_34 : decode cX12_isOver 34 = .ok (.getfield 50, 3) := by decide +kernel
theorem dX12_isOver_37 : decode cX12_isOver 37 = .ok (.iconst 3, 1) := by decide +kernel
theorem dX12_isOver_38 : decode cX12_isOver 38 = .ok (.iload_n 1, 1) := by decide +kernel
theorem dX12_isOver_39 : decode cX12_isOver 39 = .ok (.imul, 1) := by decide +kernel
theorem dX12_isOver_40 : decode cX12_isOver 40 = .ok (.iaload, 1) := by decide +kernel
theorem dX12_isOver_41 : decode cX12_isOver 41 = .ok (.aload_n 0, 1) := by decide +kernel
theorem dX12_isOver_42 : decode cX12_isOver 42 = .ok (.iload_n 1, 1) := by decide +kernel
theorem dX12_isOver_43 : decode cX12_isOver 43 = .ok (.invokevirtual 297, 3) := by decide +kernel
theorem dX12_isOver_46 : decode cX12_isOver 46 = .ok (.iadd, 1) := by decide +kernel
theorem dX12_isOver_47 : decode cX12_isOver 47 = .ok (.if_icmp .ge 65, 3) := by decide +kernel
theorem dX12_isOver_50 : decode cX12_isOver 50 = .ok (.aload_n 0, 1) := by decide +kernel
theorem dX12_isOver_51 : decode cX12_isOver 51 = .ok (.getfield 50, 3) := by decide +kernel
theorem dX12_isOver_54 : decode cX12_isOver 54 = .ok (.iconst 3, 1) := by decide +kernel
theorem dX12_isOver_55 : decode cX12_isOver 55 = .ok (.iload_n 1, 1) := by decide +kernel
theorem dX12_isOver_56 : decode cX12_isOver 56 = .ok (.imul, 1) := by decide +kernel
theorem dX12_isOver_57 : decode cX12_isOver 57 = .ok (.iconst 1, 1) := by decide +kernel
theorem dX12_isOver_58 : decode cX12_isOver 58 = .ok (.iadd, 1) := by decide +kernel
theorem dX12_isOver_59 : decode cX12_isOver 59 = .ok (.iaload, 1) := by decide +kernel
theorem dX12_isOver_60 : decode cX12_isOver 60 = .ok (.aload_n 0, 1) := by decide +kernel
theorem dX12_isOver_61 : decode cX12_isOver 61 = .ok (.getfield 50, 3) := by decide +kernel
theorem dX12_isOver_64 : decode cX12_isOver 64 = .ok (.iconst 3, 1) := by decide +kernel
theorem dX12_isOver_65 : decode cX12_isOver 65 = .ok (.iload_n 2, 1) := by decide +kernel
theorem dX12_isOver_66 : decode cX12_isOver 66 = .ok (.imul, 1) := by decide +kernel
theorem dX12_isOver_67 : decode cX12_isOver 67 = .ok (.iconst 1, 1) := by decide +kernel
theorem dX12_isOver_68 : decode cX12_isOver 68 = .ok (.iadd, 1) := by decide +kernel
theorem dX12_isOver_69 : decode cX12_isOver 69 = .ok (.iaload, 1) := by decide +kernel
theorem dX12_isOver_70 : decode cX12_isOver 70 = .ok (.aload_n 0, 1) := by decide +kernel
theorem dX12_isOver_71 : decode cX12_isOver 71 = .ok (.iload_n 2, 1) := by decide +kernel
theorem dX12_isOver_72 : decode cX12_isOver 72 = .ok (.invokevirtual 300, 3) := by decide +kernel
theorem dX12_isOver_75 : decode cX12_isOver 75 = .ok (.iadd, 1) := by decide +kernel
theorem dX12_isOver_76 : decode cX12_isOver 76 = .ok (.if_icmp .ge 36, 3) := by decide +kernel
theorem dX12_isOver_79 : decode cX12_isOver 79 = .ok (.aload_n 0, 1) := by decide +kernel
theorem dX12_isOver_80 : decode cX12_isOver 80 = .ok (.getfield 50, 3) := by decide +kernel
theorem dX12_isOver_83 : decode cX12_isOver 83 = .ok (.iconst 3, 1) := by decide +kernel
theorem dX12_isOver_84 : decode cX12_isOver 84 = .ok (.iload_n 2, 1) := by decide +kernel
theorem dX12_isOver_85 : decode cX12_isOver 85 = .ok (.imul, 1) := by decide +kernel
theorem dX12_isOver_86 : decode cX12_isOver 86 = .ok (.iconst 1, 1) := by decide +kernel
theorem dX12_isOver_87 : decode cX12_isOver 87 = .ok (.iadd, 1) := by decide +kernel
theorem dX12_isOver_88 : decode cX12_isOver 88 = .ok (.iaload, 1) := by decide +kernel
theorem dX12_isOver_89 : decode cX12_isOver 89 = .ok (.aload_n 0, 1) := by decide +kernel
theorem dX12_isOver_90 : decode cX12_isOver 90 = .ok (.getfield 50, 3) := by decide +kernel
theorem dX12_isOver_93 : decode cX12_isOver 93 = .ok (.iconst 3, 1) := by decide +kernel
theorem dX12_isOver_94 : decode cX12_isOver 94 = .ok (.iload_n 1, 1) := by decide +kernel
theorem dX12_isOver_95 : decode cX12_isOver 95 = .ok (.imul, 1) := by decide +kernel
theorem dX12_isOver_96 : decode cX12_isOver 96 = .ok (.iconst 1, 1) := by decide +kernel
theorem dX12_isOver_97 : decode cX12_isOver 97 = .ok (.iadd, 1) := by decide +kernel
theorem dX12_isOver_98 : decode cX12_isOver 98 = .ok (.iaload, 1) := by decide +kernel
theorem dX12_isOver_99 : decode cX12_isOver 99 = .ok (.aload_n 0, 1) := by decide +kernel
theorem dX12_isOver_100 : decode cX12_isOver 100 = .ok (.iload_n 1, 1) := by decide +kernel
theorem dX12_isOver_101 : decode cX12_isOver 101 = .ok (.invokevirtual 300, 3) := by decide +kernel
theorem dX12_isOver_104 : decode cX12_isOver 104 = .ok (.iadd, 1) := by decide +kernel
theorem dX12_isOver_105 : decode cX12_isOver 105 = .ok (.if_icmp .ge 7, 3) := by decide +kernel
theorem dX12_isOver_108 : decode cX12_isOver 108 = .ok (.iconst 1, 1) := by decide +kernel
theorem dX12_isOver_109 : decode cX12_isOver 109 = .ok (.goto 4, 3) := by decide +kernel
theorem dX12_isOver_112 : decode cX12_isOver 112 = .ok (.iconst 0, 1) := by decide +kernel
theorem dX12_isOver_113 : decode cX12_isOver 113 = .ok (.ireturn, 1) := by decide +kernel
def wp_X12_isOver (h : AH) (a0 : Nat) (x1 : Int32) (x2 : Int32) (post : AH → Int32 → Prop) : Prop := (ob h a0 11) ∧ (∃ rv1, aP h a0 24 = some rv1 ∧ ((ob h rv1 13) ∧ ((vp_in ((3 : Int32) * x1) (aL h rv1)) ∧ ((ob h a0 11) ∧ (∃ rv2, aP h a0 24 = some rv2 ∧ ((ob h rv2 13) ∧ ((vp_in ((3 : Int32) * x2) (aL h rv2)) ∧ ((ob h a0 11) ∧ wp_X12_wide h a0 x2 (fun hv3 iv4 => (((aI h rv2 ((3 : Int32) * x2).toNatClampNeg) + iv4) ≤ (aI h rv1 ((3 : Int32) * x1).toNatClampNeg) → (((0 : Int32) = 0 ∨ (0 : Int32) = 1) ∧ post hv3 0)) ∧ (¬ ((aI h rv2 ((3 : Int32) * x2).toNatClampNeg) + iv4) ≤ (aI h rv1 ((3 : Int32) * x1).toNatClampNeg) → ((ob hv3 a0 11) ∧ (∃ rv5, aP hv3 a0 24 = some rv5 ∧ ((ob hv3 rv5 13) ∧ ((vp_in ((3 : Int32) * x2) (aL hv3 rv5)) ∧ ((ob hv3 a0 11) ∧ (∃ rv6, aP hv3 a0 24 = some rv6 ∧ ((ob hv3 rv6 13) ∧ ((vp_in ((3 : Int32) * x1) (aL hv3 rv6)) ∧ ((ob hv3 a0 11) ∧ wp_X12_wide hv3 a0 x1 (fun hv7 iv8 => (((aI hv3 rv6 ((3 : Int32) * x1).toNatClampNeg) + iv8) ≤ (aI hv3 rv5 ((3 : Int32) * x2).toNatClampNeg) → (((0 : Int32) = 0 ∨ (0 : Int32) = 1) ∧ post hv7 0)) ∧ (¬ ((aI hv3 rv6 ((3 : Int32) * x1).toNatClampNeg) + iv8) ≤ (aI hv3 rv5 ((3 : Int32) * x2).toNatClampNeg) → ((ob hv7 a0 11) ∧ (∃ rv9, aP hv7 a0 24 = some rv9 ∧ ((ob hv7 rv9 13) ∧ ((vp_in (((3 : Int32) * x1) + (1 : Int32)) (aL hv7 rv9)) ∧ ((ob hv7 a0 11) ∧ (∃ rv10, aP hv7 a0 24 = some rv10 ∧ ((ob hv7 rv10 13) ∧ ((vp_in (((3 : Int32) * x2) + (1 : Int32)) (aL hv7 rv10)) ∧ ((ob hv7 a0 11) ∧ wp_X12_high hv7 a0 x2 (fun hv11 iv12 => (((aI hv7 rv10 (((3 : Int32) * x2) + (1 : Int32)).toNatClampNeg) + iv12) ≤ (aI hv7 rv9 (((3 : Int32) * x1) + (1 : Int32)).toNatClampNeg) → (((0 : Int32) = 0 ∨ (0 : Int32) = 1) ∧ post hv11 0)) ∧ (¬ ((aI hv7 rv10 (((3 : Int32) * x2) + (1 : Int32)).toNatClampNeg) + iv12) ≤ (aI hv7 rv9 (((3 : Int32) * x1) + (1 : Int32)).toNatClampNeg) → ((ob hv11 a0 11) ∧ (∃ rv13, aP hv11 a0 24 = some rv13 ∧ ((ob hv11 rv13 13) ∧ ((vp_in (((3 : Int32) * x2) + (1 : Int32)) (aL hv11 rv13)) ∧ ((ob hv11 a0 11) ∧ (∃ rv14, aP hv11 a0 24 = some rv14 ∧ ((ob hv11 rv14 13) ∧ ((vp_in (((3 : Int32) * x1) + (1 : Int32)) (aL hv11 rv14)) ∧ ((ob hv11 a0 11) ∧ wp_X12_high hv11 a0 x1 (fun hv15 iv16 => (((aI hv11 rv14 (((3 : Int32) * x1) + (1 : Int32)).toNatClampNeg) + iv16) ≤ (aI hv11 rv13 (((3 : Int32) * x2) + (1 : Int32)).toNatClampNeg) → (((0 : Int32) = 0 ∨ (0 : Int32) = 1) ∧ post hv15 0)) ∧ (¬ ((aI hv11 rv14 (((3 : Int32) * x1) + (1 : Int32)).toNatClampNeg) + iv16) ≤ (aI hv11 rv13 (((3 : Int32) * x2) + (1 : Int32)).toNatClampNeg) → (((1 : Int32) = 0 ∨ (1 : Int32) = 1) ∧ post hv15 1))))))))))))))))))))))))))))))))))))))))))))
set_option maxRecDepth 100000 in
theorem c_X12_isOver (G : GG) (h : AH) (a0 : Nat) (x1 : Int32) (x2 : Int32) (post : AH → Int32 → Prop) (hw : wp_X12_isOver h a0 x1 x2 post) : MC G yX12_isOver cX12_isOver 3 (some .boolean) 1 21 h [.ref (G.1 + a0), .int x1, .int x2] (pI post) := by
  refine MC.of (lv := [(0, .ref (G.1 + a0)), (1, .int x1), (2, .int x2)]) (by decide) (Nat.le_of_ble_eq_true rfl) rfl fun p l e R s m args below meth c C hr hnm => ?_
  unfold wp_X12_isOver at hw
  refine r_aload_n C dX12_isOver_0 0 rfl ?_
  have hob := hw.1
  obtain ⟨rv1, hp, hw⟩ := hw.2
  refine r_getP C fl_RX12_50_11 hob hp (fun _ _ _ => rfl) dX12_isOver_1 ?_
  refine r_iconst (v := 3) C dX12_isOver_4 (by decide) ?_
  refine r_iload_n C dX12_isOver_5 1 rfl ?_
  refine r_imul C dX12_isOver_6 ?_
  refine r_iaload C hw.1 hw.2.1 dX12_isOver_7 ?_
  replace hw := hw.2.2
  refine r_aload_n C dX12_isOver_8 0 rfl ?_
  have hob := hw.1
  obtain ⟨rv2, hp, hw⟩ := hw.2
  refine r_getP C fl_RX12_50_11 hob hp (fun _ _ _ => rfl) dX12_isOver_9 ?_
  refine r_iconst (v := 3) C dX12_isOver_12 (by decide) ?_
  refine r_iload_n C dX12_isOver_13 2 rfl ?_
  refine r_imul C dX12_isOver_14 ?_
  refine r_iaload C hw.1 hw.2.1 dX12_isOver_15 ?_
  replace hw := hw.2.2
  refine r_aload_n C dX12_isOver_16 0 rfl ?_
  refine r_iload_n C dX12_isOver_17 2 rfl ?_
  have hob := hw.1
  replace hw := hw.2
  refine r_callV C (As := [.int x2]) (rest := [.int (aI h rv2 ((3 : Int32) * x2).toNatClampNeg), .int (aI h rv1 ((3 : Int32) * x1).toNatClampNeg)]) (c_X12_wide G h a0 x2 _ hw) yl_X12_wide (gm7 (List.mem_of_getElem? (i := 227) rfl) rfl) (gm7 (List.mem_of_getElem? (i := 229) rfl) rfl) (ci := 11) rfl (by decide) (gsel (List.mem_of_getElem? (i := 57) rfl)) hob (by decide) rfl (Nat.le_of_ble_eq_true rfl) dX12_isOver_18 rfl (kI fun hv3 iv4 hw => ?_)
  refine r_iadd C dX12_isOver_21 ?_
  refine r_icmp_ge C dX12_isOver_22 112 (by decide) (fun hc => ?_) (fun hc => ?_)
  · replace hw := hw.1 hc
    refine r_iconst (v := 0) C dX12_isOver_112 (by decide) ?_
    exact r_zret C hr dX12_isOver_113 hw.1 hw.2
  · replace hw := hw.2 hc
    refine r_aload_n C dX12_isOver_25 0 rfl ?_
    have hob := hw.1
    obtain ⟨rv5, hp, hw⟩ := hw.2
    refine r_getP C fl_RX12_50_11 hob hp (fun _ _ _ => rfl) dX12_isOver_26 ?_
    refine r_iconst (v := 3) C dX12_isOver_29 (by decide) ?_
    refine r_iload_n C dX12_isOver_30 2 rfl ?_
    refine r_imul C dX12_isOver_31 ?_
    refine r_iaload C hw.1 hw.2.1 dX12_isOver_32 ?_
    replace hw := hw.2.2
    refine r_aload_n C dX12_isOver_33 0 rfl ?_
    have hob := hw.1
    obtain ⟨rv6, hp, hw⟩ := hw.2
    refine r_getP C fl_RX12_50_11 hob hp (fun _ _ _ => rfl) dX12_isOver_34 ?_
    refine r_iconst (v := 3) C dX12_isOver_37 (by decide) ?_
    refine r_iload_n C dX12_isOver_38 1 rfl ?_
    refine r_imul C dX12_isOver_39 ?_
    refine r_iaload C hw.1 hw.2.1 dX12_isOver_40 ?_
    replace hw := hw.2.2
    refine r_aload_n C dX12_isOver_41 0 rfl ?_
    refine r_iload_n C dX12_isOver_42 1 rfl ?_
    have hob := hw.1
    replace hw := hw.2
    refine r_callV C (As := [.int x1]) (rest := [.int (aI hv3 rv6 ((3 : Int32) * x1).toNatClampNeg), .int (aI hv3 rv5 ((3 : Int32) * x2).toNatClampNeg)]) (c_X12_wide G hv3 a0 x1 _ hw) yl_X12_wide (gm7 (List.mem_of_getElem? (i := 227) rfl) rfl) (gm7 (List.mem_of_getElem? (i := 229) rfl) rfl) (ci := 11) rfl (by decide) (gsel (List.mem_of_getElem? (i := 57) rfl)) hob (by decide) rfl (Nat.le_of_ble_eq_true rfl) dX12_isOver_43 rfl (kI fun hv7 iv8 hw => ?_)
    refine r_iadd C dX12_isOver_46 ?_
    refine r_icmp_ge C dX12_isOver_47 112 (by decide) (fun hc => ?_) (fun hc => ?_)
    · replace hw := hw.1 hc
      refine r_iconst (v := 0) C dX12_isOver_112 (by decide) ?_
      exact r_zret C hr dX12_isOver_113 hw.1 hw.2
    · replace hw := hw.2 hc
      refine r_aload_n C dX12_isOver_50 0 rfl ?_
      have hob := hw.1
      obtain ⟨rv9, hp, hw⟩ := hw.2
      refine r_getP C fl_RX12_50_11 hob hp (fun _ _ _ => rfl) dX12_isOver_51 ?_
      refine r_iconst (v := 3) C dX12_isOver_54 (by decide) ?_
      refine r_iload_n C dX12_isOver_55 1 rfl ?_
      refine r_imul C dX12_isOver_56 ?_
      refine r_iconst (v := 1) C dX12_isOver_57 (by decide) ?_
      refine r_iadd C dX12_isOver_58 ?_
      refine r_iaload C hw.1 hw.2.1 dX12_isOver_59 ?_
      replace hw := hw.2.2
      refine r_aload_n C dX12_isOver_60 0 rfl ?_
      have hob := hw.1
      obtain ⟨rv10, hp, hw⟩ := hw.2
      refine r_getP C fl_RX12_50_11 hob hp (fun _ _ _ => rfl) dX12_isOver_61 ?_
      refine r_iconst (v := 3) C dX12_isOver_64 (by decide) ?_
      refine r_iload_n C dX12_isOver_65 2 rfl ?_
      refine r_imul C dX12_isOver_66 ?_
      refine r_iconst (v := 1) C dX12_isOver_67 (by decide) ?_
      refine r_iadd C dX12_isOver_68 ?_
      refine r_iaload C hw.1 hw.2.1 dX12_isOver_69 ?_
      replace hw := hw.2.2
      refine r_aload_n C dX12_isOver_70 0 rfl ?_
      refine r_iload_n C dX12_isOver_71 2 rfl ?_
      have hob := hw.1
      replace hw := hw.2
      refine r_callV C (As := [.int x2]) (rest := [.int (aI hv7 rv10 (((3 : Int32) * x2) + (1 : Int32)).toNatClampNeg), .int (aI hv7 rv9 (((3 : Int32) * x1) + (1 : Int32)).toNatClampNeg)]) (c_X12_high G hv7 a0 x2 _ hw) yl_X12_high (gm7 (List.mem_of_getElem? (i := 234) rfl) rfl) (gm7 (List.mem_of_getElem? (i := 236) rfl) rfl) (ci := 11) rfl (by decide) (gsel (List.mem_of_getElem? (i := 58) rfl)) hob (by decide) rfl (Nat.le_of_ble_eq_true rfl) dX12_isOver_72 rfl (kI fun hv11 iv12 hw => ?_)
      refine r_iadd C dX12_isOver_75 ?_
      refine r_icmp_ge C dX12_isOver_76 112 (by decide) (fun hc => ?_) (fun hc => ?_)
      · replace hw := hw.1 hc
        refine r_iconst (v := 0) C dX12_isOver_112 (by decide) ?_
        exact r_zret C hr dX12_isOver_113 hw.1 hw.2
      · replace hw := hw.2 hc
        refine r_aload_n C dX12_isOver_79 0 rfl ?_
        have hob := hw.1
        obtain ⟨rv13, hp, hw⟩ := hw.2
        refine r_getP C fl_RX12_50_11 hob hp (fun _ _ _ => rfl) dX12_isOver_80 ?_
        refine r_iconst (v := 3) C dX12_isOver_83 (by decide) ?_
        refine r_iload_n C dX12_isOver_84 2 rfl ?_
        refine r_imul C dX12_isOver_85 ?_
        refine r_iconst (v := 1) C dX12_isOver_86 (by decide) ?_
        refine r_iadd C dX12_isOver_87 ?_
        refine r_iaload C hw.1 hw.2.1 dX12_isOver_88 ?_
        replace hw := hw.2.2
        refine r_aload_n C dX12_isOver_89 0 rfl ?_
        have hob := hw.1
        obtain ⟨rv14, hp, hw⟩ := hw.2
        refine r_getP C fl_RX12_50_11 hob hp (fun _ _ _ => rfl) dX12_isOver_90 ?_
        refine r_iconst (v := 3) C dX12_isOver_93 (by decide) ?_
        refine r_iload_n C dX12_isOver_94 1 rfl ?_
        refine r_imul C dX12_isOver_95 ?_
        refine r_iconst (v := 1) C dX12_isOver_96 (by decide) ?_
        refine r_iadd C dX12_isOver_97 ?_
        refine r_iaload C hw.1 hw.2.1 dX12_isOver_98 ?_
        replace hw := hw.2.2
        refine r_aload_n C dX12_isOver_99 0 rfl ?_
        refine r_iload_n C dX12_isOver_100 1 rfl ?_
        have hob := hw.1
        replace hw := hw.2
        refine r_callV C (As := [.int x1]) (rest := [.int (aI hv11 rv14 (((3 : Int32) * x1) + (1 : Int32)).toNatClampNeg), .int (aI hv11 rv13 (((3 : Int32) * x2) + (1 : Int32)).toNatClampNeg)]) (c_X12_high G hv11 a0 x1 _ hw) yl_X12_high (gm7 (List.mem_of_getElem? (i := 234) rfl) rfl) (gm7 (List.mem_of_getElem? (i := 236) rfl) rfl) (ci := 11) rfl (by decide) (gsel (List.mem_of_getElem? (i := 58) rfl)) hob (by decide) rfl (Nat.le_of_ble_eq_true rfl) dX12_isOver_101 rfl (kI fun hv15 iv16 hw => ?_)
        refine r_iadd C dX12_isOver_104 ?_
        refine r_icmp_ge C dX12_isOver_105 112 (by decide) (fun hc => ?_) (fun hc => ?_)
        · replace hw := hw.1 hc
          refine r_iconst (v := 0) C dX12_isOver_112 (by decide) ?_
          exact r_zret C hr dX12_isOver_113 hw.1 hw.2
        · replace hw := hw.2 hc
          refine r_iconst (v := 1) C dX12_isOver_108 (by decide) ?_
          refine r_goto C dX12_isOver_109 113 (by decide) ?_
          exact r_zret C hr dX12_isOver_113 hw.1 hw.2
theorem dX12_isOnAnother_0 : decode cX12_isOnAnother 0 = .ok (.iconst 0, 1) := by decide +kernel
theorem dX12_isOnAnother_1 : decode cX12_isOnAnother 1 = .ok (.istore_n 2, 1) := by decide +kernel
theorem dX12_isOnAnother_2 : decode cX12_isOnAnother 2 = .ok (.iload_n 2, 1) := by decide +kernel
theorem dX12_isOnAnother_3 : decode cX12_isOnAnother 3 = .ok (.aload_n 0, 1) := by decide +kernel
theorem dX12_isOnAnother_4 : decode cX12_isOnAnother 4 = .ok (.getfield 33, 3) := by decide +kernel
theorem dX12_isOnAnother_7 : decode cX12_isOnAnother 7 = .ok (.iconst 2, 1) := by decide +kernel
theorem dX12_isOnAnother_8 : decode cX12_isOnAnother 8 = .ok (.iaload, 1) := by decide +kernel
theorem dX12_isOnAnother_9 : decode cX12_isOnAnother 9 = .ok (.if_icmp .ge 25, 3) := by decide +kernel
theorem dX12_isOnAnother_12 : decode cX12_isOnAnother 12 = .ok (.iload_n 2, 1) := by decide +kernel
theorem dX12_isOnAnother_13 : decode cX12_isOnAnother 13 = .ok (.iload_n 1, 1) := by decide +kernel
theorem dX12_isOnAnother_14 : decode cX12_isOnAnother 14 = .ok (.if_icmp .eq 14, 3) := by decide +kernel
theorem dX12_isOnAnother_17 : decode cX12_isOnAnother 17 = .ok (.aload_n 0, 1) := by decide +kernel
theorem dX12_isOnAnother_18 : decode cX12_isOnAnother 18 = .ok (.iload_n 1, 1) := by decide +kernel
theorem dX12_isOnAnother_19 : decode cX12_isOnAnother 19 = .ok (.iload_n 2, 1) := by decide +kernel
theorem dX12_isOnAnother_20 : decode cX12_isOnAnother 20 = .ok (.invokevirtual 307, 3) := by decide +kernel
theorem dX12_isOnAnother_23 : decode cX12_isOnAnother 23 = .ok (.ifCond .eq 5, 3) := by decide +kernel
theorem dX12_isOnAnother_26 : decode cX12_isOnAnother 26 = .ok (.iconst 1, 1) := by decide +kernel
theorem dX12_isOnAnother_27 : decode cX12_isOnAnother 27 = .ok (.ireturn, 1) := by decide +kernel
theorem dX12_isOnAnother_28 : decode cX12_isOnAnother 28 = .ok (.iinc 2 1, 3) := by decide +kernel
theorem dX12_isOnAnother_31 : decode cX12_isOnAnother 31 = .ok (.goto (-29), 3) := by decide +kernel
theorem dX12_isOnAnother_34 : decode cX12_isOnAnother 34 = .ok (.iconst 0, 1) := by decide +kernel
theorem dX12_isOnAnother_35 : decode cX12_isOnAnother 35 = .ok (.ireturn, 1) := by decide +kernel
def wb_X12_isOnAnother_28 (K2 : AH → Nat → Int32 → Int32 → Prop) (h : AH) (al0 : Nat) (xl1 : Int32) (xl2 : Int32)  (post : AH → Int32 → Prop) : Prop := ∀ iv1 : Int32, iv1 = xl2 + 1 → (K2 h al0 xl1 iv1)
set_option maxRecDepth 100000 in
theorem tb_X12_isOnAnother_28 {G : GG} {p : Program} {l : Launch} {e : Env} {R : Room} {s : State} {m : MethodId} {args : Array Value} {below : List Frame} {meth : Method} {c : Code} {n0 s0 : Nat} {post : AH → Int32 → Prop} (C : Cx G p R s m args meth c 3 cX12_isOnAnother RX12 n0 s0 2 43) (hr : meth.sig.returnType = (some .boolean)) {K2 : AH → Nat → Int32 → Int32 → Prop} (hK2 : ∀ (h : AH) (al0 : Nat) (xl1 : Int32) (xl2 : Int32), K2 h al0 xl1 xl2 → AW G p l e R s m args below meth c 3 (QM G (pI post) args s below n0 s0) 2 [(0, .ref (G.1 + al0)), (1, .int xl1), (2, .int xl2)] [] h) {h : AH} {al0 : Nat} {xl1 : Int32} {xl2 : Int32}  (hw : wb_X12_isOnAnother_28 K2 h al0 xl1 xl2 post) : AW G p l e R s m args below meth c 3 (QM G (pI post) args s below n0 s0) 28 [(0, .ref (G.1 + al0)), (1, .int xl1), (2, .int xl2)] [] h := by
  unfold wb_X12_isOnAnother_28 at hw
  obtain ⟨iv1, eiv1⟩ : ∃ q : Int32, q = xl2 + 1 := ⟨_, rfl⟩
  replace hw := hw iv1 eiv1
  refine r_iinc C dX12_isOnAnother_28 2 rfl (by rw [eiv1]; rfl) [(2, .int iv1), (0, .ref (G.1 + al0)), (1, .int xl1)] (by decide) rfl ?_
  refine r_goto C dX12_isOnAnother_31 2 (by decide) ?_
  refine r_sub [1, 2, 0] rfl ?_
  exact hK2 _ _ _ _ hw
def wb_X12_isOnAnother_2 (K2 : AH → Nat → Int32 → Int32 → Prop) (h : AH) (al0 : Nat) (xl1 : Int32) (xl2 : Int32)  (post : AH → Int32 → Prop) : Prop := (ob h al0 11) ∧ (∃ rv1, aP h al0 6 = some rv1 ∧ ((ob h rv1 13) ∧ ((vp_in 2 (aL h rv1)) ∧ (((aI h rv1 (2 : Int32).toNatClampNeg) ≤ xl2 → (((0 : Int32) = 0 ∨ (0 : Int32) = 1) ∧ post h 0)) ∧ (¬ (aI h rv1 (2 : Int32).toNatClampNeg) ≤ xl2 → ((xl2 = xl1 → (wb_X12_isOnAnother_28 K2 h al0 xl1 xl2 post)) ∧ (¬ xl2 = xl1 → ((ob h al0 11) ∧ wp_X12_isOver h al0 xl1 xl2 (fun hv2 iv3 => (iv3 = 0 → (wb_X12_isOnAnother_28 K2 hv2 al0 xl1 xl2 post)) ∧ (¬ iv3 = 0 → (((1 : Int32) = 0 ∨ (1 : Int32) = 1) ∧ post hv2 1)))))))))))
set_option maxRecDepth 100000 in
theorem tb_X12_isOnAnother_2 {G : GG} {p : Program} {l : Launch} {e : Env} {R : Room} {s : State} {m : MethodId} {args : Array Value} {below : List Frame} {meth : Method} {c : Code} {n0 s0 : Nat} {post : AH → Int32 → Prop} (C : Cx G p R s m args meth c 3 cX12_isOnAnother RX12 n0 s0 2 43) (hr : meth.sig.returnType = (some .boolean)) {K2 : AH → Nat → Int32 → Int32 → Prop} (hK2 : ∀ (h : AH) (al0 : Nat) (xl1 : Int32) (xl2 : Int32), K2 h al0 xl1 xl2 → AW G p l e R s m args below meth c 3 (QM G (pI post) args s below n0 s0) 2 [(0, .ref (G.1 + al0)), (1, .int xl1), (2, .int xl2)] [] h) {h : AH} {al0 : Nat} {xl1 : Int32} {xl2 : Int32}  (hw : wb_X12_isOnAnother_2 K2 h al0 xl1 xl2 post) : AW G p l e R s m args below meth c 3 (QM G (pI post) args s below n0 s0) 2 [(0, .ref (G.1 + al0)), (1, .int xl1), (2, .int xl2)] [] h := by
  unfold wb_X12_isOnAnother_2 at hw
  refine r_iload_n C dX12_isOnAnother_2 2 rfl ?_
  refine r_aload_n C dX12_isOnAnother_3 0 rfl ?_
  have hob := hw.1
  obtain ⟨rv1, hp, hw⟩ := hw.2
  refine r_getP C fl_RX12_33_11 hob hp (fun _ _ _ => rfl) dX12_isOnAnother_4 ?_
  refine r_iconst (v := 2) C dX12_isOnAnother_7 (by decide) ?_
  refine r_iaload C hw.1 hw.2.1 dX12_isOnAnother_8 ?_
  replace hw := hw.2.2
  refine r_icmp_ge C dX12_isOnAnother_9 34 (by decide) (fun hc => ?_) (fun hc => ?_)
  · replace hw := hw.1 hc
    refine r_iconst (v := 0) C dX12_isOnAnother_34 (by decide) ?_
    exact r_zret C hr dX12_isOnAnother_35 hw.1 hw.2
  · replace hw := hw.2 hc
    refine r_iload_n C dX12_isOnAnother_12 2 rfl ?_
    refine r_iload_n C dX12_isOnAnother_13 1 rfl ?_
    refine r_icmp_eq C dX12_isOnAnother_14 28 (by decide) (fun hc => ?_) (fun hc => ?_)
    · replace hw := hw.1 hc
      refine r_sub [0, 1, 2] rfl ?_
      exact tb_X12_isOnAnother_28 C hr hK2 hw
    · replace hw := hw.2 hc
      refine r_aload_n C dX12_isOnAnother_17 0 rfl ?_
      refine r_iload_n C dX12_isOnAnother_18 1 rfl ?_
      refine r_iload_n C dX12_isOnAnother_19 2 rfl ?_
      have hob := hw.1
      replace hw := hw.2
      refine r_callV C (As := [.int xl1, .int xl2]) (rest := []) (c_X12_isOver G h al0 xl1 xl2 _ hw) yl_X12_isOver (gm8 (List.mem_of_getElem? (i := 89) rfl) rfl) (gm8 (List.mem_of_getElem? (i := 91) rfl) rfl) (ci := 11) rfl (by decide) (gsel (List.mem_of_getElem? (i := 76) rfl)) hob (by decide) rfl (Nat.le_of_ble_eq_true rfl) dX12_isOnAnother_20 rfl (kI fun hv2 iv3 hw => ?_)
      refine r_if_eq C dX12_isOnAnother_23 28 (by decide) (fun hc => ?_) (fun hc => ?_)
      · replace hw := hw.1 hc
        refine r_sub [0, 1, 2] rfl ?_
        exact tb_X12_isOnAnother_28 C hr hK2 hw
      · replace hw := hw.2 hc
        refine r_iconst (v := 1) C dX12_isOnAnother_26 (by decide) ?_
        exact r_zret C hr dX12_isOnAnother_27 hw.1 hw.2
def wl_X12_isOnAnother_2  (post : AH → Int32 → Prop) : Nat → AH → Nat → Int32 → Int32 → Prop
  | 0 => fun _ _ _ _ => False
  | n + 1 => fun h al0 xl1 xl2 => wb_X12_isOnAnother_2  (wl_X12_isOnAnother_2  post n) h al0 xl1 xl2 post
theorem tl_X12_isOnAnother_2 {G : GG} {p : Program} {l : Launch} {e : Env} {R : Room} {s : State} {m : MethodId} {args : Array Value} {below : List Frame} {meth : Method} {c : Code} {n0 s0 : Nat} {post : AH → Int32 → Prop} (C : Cx G p R s m args meth c 3 cX12_isOnAnother RX12 n0 s0 2 43) (hr : meth.sig.returnType = (some .boolean))   : ∀ (n : Nat) (h : AH) (al0 : Nat) (xl1 : Int32) (xl2 : Int32), wl_X12_isOnAnother_2  post n h al0 xl1 xl2 → AW G p l e R s m args below meth c 3 (QM G (pI post) args s below n0 s0) 2 [(0, .ref (G.1 + al0)), (1, .int xl1), (2, .int xl2)] [] h := by
  intro n
  induction n with
  | zero => intro h al0 xl1 xl2 hw; exact hw.elim
  | succ n ih => intro h al0 xl1 xl2 hw; exact tb_X12_isOnAnother_2 C hr  ih hw
def wp_X12_isOnAnother (h : AH) (a0 : Nat) (x1 : Int32) (post : AH → Int32 → Prop) : Prop := ∃ n, wl_X12_isOnAnother_2  post n h a0 x1 0
set_option maxRecDepth 100000 in
theorem c_X12_isOnAnother (G : GG) (h : AH) (a0 : Nat) (x1 : Int32) (post : AH → Int32 → Prop) (hw : wp_X12_isOnAnother h a0 x1 post) : MC G yX12_isOnAnother cX12_isOnAnother 3 (some .boolean) 2 43 h [.ref (G.1 + a0), .int x1] (pI post) := by
  refine MC.of (lv := [(0, .ref (G.1 + a0)), (1, .int x1)]) (by decide) (Nat.le_of_ble_eq_true rfl) rfl fun p l e R s m args below meth c C hr hnm => ?_
  unfold wp_X12_isOnAnother at hw
  refine r_iconst (v := 0) C dX12_isOnAnother_0 (by decide) ?_
  refine r_istore_n C dX12_isOnAnother_1 [(2, .int 0), (0, .ref (G.1 + a0)), (1, .int x1)] (by decide) rfl ?_
  refine r_sub [1, 2, 0] rfl ?_
  obtain ⟨n, hw⟩ := hw
  exact tl_X12_isOnAnother_2 C hr  n _ _ _ _ hw
theorem dX12_doesFloat_0 : decode cX12_doesFloat 0 = .ok (.aload_n 0, 1) := by decide +kernel
theorem dX12_doesFloat_1 : decode cX12_doesFloat 1 = .ok (.getfield 50, 3) := by decide +kernel
theorem dX12_doesFloat_4 : decode cX12_doesFloat 4 = .ok (.iconst 3, 1) := by decide +kernel
theorem dX12_doesFloat_5 : decode cX12_doesFloat 5 = .ok (.iload_n 1, 1) := by decide +kernel
theorem dX12_doesFloat_6 : decode cX12_doesFloat 6 = .ok (.imul, 1) := by decide +kernel
theorem dX12_doesFloat_7 : decode cX12_doesFloat 7 = .ok (.iconst 1, 1) := by decide +kernel
theorem dX12_doesFloat_8 : decode cX12_doesFloat 8 = .ok (.iadd, 1) := by decide +kernel
theorem dX12_doesFloat_9 : decode cX12_doesFloat 9 = .ok (.iaload, 1) := by decide +kernel
theorem dX12_doesFloat_10 : decode cX12_doesFloat 10 = .ok (.istore_n 3, 1) := by decide +kernel
theorem dX12_doesFloat_11 : decode cX12_doesFloat 11 = .ok (.iload_n 3, 1) := by decide +kernel
theorem dX12_doesFloat_12 : decode cX12_doesFloat 12 = .ok (.aload_n 0, 1) := by decide +kernel
theorem dX12_doesFloat_13 : decode cX12_doesFloat 13 = .ok (.getfield 50, 3) := by decide +kernel
theorem dX12_doesFloat_16 : decode cX12_doesFloat 16 = .ok (.iconst 3, 1) := by decide +kernel
theorem dX12_doesFloat_17 : decode cX12_doesFloat 17 = .ok (.iload_n 1, 1) := by decide +kernel
theorem dX12_doesFloat_18 : decode cX12_doesFloat 18 = .ok (.imul, 1) := by decide +kernel
theorem dX12_doesFloat_19 : decode cX12_doesFloat 19 = .ok (.iconst 1, 1) := by decide +kernel
theorem dX12_doesFloat_20 : decode cX12_doesFloat 20 = .ok (.iadd, 1) := by decide +kernel
theorem dX12_doesFloat_21 : decode cX12_doesFloat 21 = .ok (.iaload, 1) := by decide +kernel
theorem dX12_doesFloat_22 : decode cX12_doesFloat 22 = .ok (.aload_n 0, 1) := by decide +kernel
theorem dX12_doesFloat_23 : decode cX12_doesFloat 23 = .ok (.iload_n 1, 1) := by decide +kernel
theorem dX12_doesFloat_24 : decode cX12_doesFloat 24 = .ok (.invokevirtual 300, 3) := by decide +kernel
theorem dX12_doesFloat_27 : decode cX12_doesFloat 27 = .ok (.iadd, 1) := by decide +kernel
theorem dX12_doesFloat_28 : decode cX12_doesFloat 28 = .ok (.if_icmp .ge 70, 3) := by decide +kernel
theorem dX12_doesFloat_31 : decode cX12_doesFloat 31 = .ok (.aload_n 0, 1) := by decide +kernel
theorem dX12_doesFloat_32 : decode cX12_doesFloat 32 = .ok (.getfield 50, 3) := by decide +kernel
theorem dX12_doesFloat_35 : decode cX12_doesFloat 35 = .ok (.iconst 3, 1) := by decide +kernel
theorem dX12_doesFloat_36 : decode cX12_doesFloat 36 = .ok (.iload_n 1, 1) := by decide +kernel
theorem dX12_doesFloat_37 : decode cX12_doesFloat 37 = .ok (.imul, 1) := by decide +kernel
theorem dX12_doesFloat_38 : decode cX12_doesFloat 38 = .ok (.iaload, 1) := by decide +kernel
theorem dX12_doesFloat_39 : decode cX12_doesFloat 39 = .ok (.istore 4, 2) := by decide +kernel
theorem dX12_doesFloat_41 : decode cX12_doesFloat 41 = .ok (.iload 4, 2) := by decide +kernel
theorem dX12_doesFloat_43 : decode cX12_doesFloat 43 = .ok (.aload_n 0, 1) := by decide +kernel
theorem dX12_doesFloat_44 : decode cX12_doesFloat 44 = .ok (.getfield 50, 3) := by decide +kernel
theorem dX12_doesFloat_47 : decode cX12_doesFloat 47 = .ok (.iconst 3, 1) := by decide +kernel
theorem dX12_doesFloat_48 : decode cX12_doesFloat 48 = .ok (.iload_n 1, 1) := by decide +kernel
theorem dX12_doesFloat_49 : decode cX12_doesFloat 49 = .ok (.imul, 1) := by decide +kernel
theorem dX12_doesFloat_50 : decode cX12_doesFloat 50 = .ok (.iaload, 1) := by decide +kernel
theorem dX12_doesFloat_51 : decode cX12_doesFloat 51 = .ok (.aload_n 0, 1) := by decide +kernel
theorem dX12_doesFloat_52 : decode cX12_doesFloat 52 = .ok (.iload_n 1, 1) := by decide +kernel
theorem dX12_doesFloat_53 : decode cX12_doesFloat 53 = .ok (.invokevirtual 297, 3) := by decide +kernel
theorem dX12_doesFloat_56 : decode cX12_doesFloat 56 = .ok (.iadd, 1) := by decide +kernel
theorem dX12_doesFloat_57 : decode cX12_doesFloat 57 = .ok (.if_icmp .ge 35, 3) := by decide +kernel
theorem dX12_doesFloat_60 : decode cX12_doesFloat 60 = .ok (.aload_n 0, 1) := by decide +kernel
theorem dX12_doesFloat_61 : decode cX12_doesFloat 61 = .ok (.iload 4, 2) := by decide +kernel
theorem dX12_doesFloat_63 : decode cX12_doesFloat 63 = .ok (.iload_n 3, 1) := by decide +kernel
theorem dX12_doesFloat_64 : decode cX12_doesFloat 64 = .ok (.iload_n 2, 1) := by decide +kernel
theorem dX12_doesFloat_65 : decode cX12_doesFloat 65 = .ok (.invokevirtual 293, 3) := by decide +kernel
theorem dX12_doesFloat_68 : decode cX12_doesFloat 68 = .ok (.aload_n 0, 1) := by decide +kernel
theorem dX12_doesFloat_69 : decode cX12_doesFloat 69 = .ok (.getfield 33, 3) := by decide +kernel
theorem dX12_doesFloat_72 : decode cX12_doesFloat 72 = .ok (.bipush 99, 2) := by decide +kernel
theorem dX12_doesFloat_74 : decode cX12_doesFloat 74 = .ok (.iconst 3, 1) := by decide +kernel
theorem dX12_doesFloat_75 : decode cX12_doesFloat 75 = .ok (.iload_n 1, 1) := by decide +kernel
theorem dX12_doesFloat_76 : decode cX12_doesFloat 76 = .ok (.imul, 1) := by decide +kernel
theorem dX12_doesFloat_77 : decode cX12_doesFloat 77 = .ok (.iadd, 1) := by decide +kernel
theorem dX12_doesFloat_78 : decode cX12_doesFloat 78 = .ok (.iconst 2, 1) := by decide +kernel
theorem dX12_doesFloat_79 : decode cX12_doesFloat 79 = .ok (.iadd, 1) := by decide +kernel
theorem dX12_doesFloat_80 : decode cX12_doesFloat 80 = .ok (.iaload, 1) := by decide +kernel
theorem dX12_doesFloat_81 : decode cX12_doesFloat 81 = .ok (.if_icmp .ge 5, 3) := by decide +kernel
theorem dX12_doesFloat_84 : decode cX12_doesFloat 84 = .ok (.iconst 0, 1) := by decide +kernel
theorem dX12_doesFloat_85 : decode cX12_doesFloat 85 = .ok (.ireturn, 1) := by decide +kernel
theorem dX12_doesFloat_86 : decode cX12_doesFloat 86 = .ok (.iinc 4 1, 3) := by decide +kernel
theorem dX12_doesFloat_89 : decode cX12_doesFloat 89 = .ok (.goto (-48), 3) := by decide +kernel
theorem dX12_doesFloat_92 : decode cX12_doesFloat 92 = .ok (.iinc 3 1, 3) := by decide +kernel
theorem dX12_doesFloat_95 : decode cX12_doesFloat 95 = .ok (.goto (-84), 3) := by decide +kernel
theorem dX12_doesFloat_98 : decode cX12_doesFloat 98 = .ok (.iconst 1, 1) := by decide +kernel
theorem dX12_doesFloat_99 : decode cX12_doesFloat 99 = .ok (.ireturn, 1) := by decide +kernel
def wb_X12_doesFloat_41 (K11 : AH → Nat → Int32 → Int32 → Int32 → Prop) (K41 : AH → Nat → Int32 → Int32 → Int32 → Int32 → Prop) (h : AH) (al0 : Nat) (xl1 : Int32) (xl2 : Int32) (xl3 : Int32) (xl4 : Int32)  (post : AH → Int32 → Prop) : Prop := (ob h al0 11) ∧ (∃ rv1, aP h al0 24 = some rv1 ∧ ((ob h rv1 13) ∧ ((vp_in ((3 : Int32) * xl1) (aL h rv1)) ∧ ((ob h al0 11) ∧ wp_X12_wide h al0 xl1 (fun hv2 iv3 => (((aI h rv1 ((3 : Int32) * xl1).toNatClampNeg) + iv3) ≤ xl4 → (∀ iv4 : Int32, iv4 = xl3 + 1 → (K11 hv2 al0 xl1 xl2 iv4))) ∧ (¬ ((aI h rv1 ((3 : Int32) * xl1).toNatClampNeg) + iv3) ≤ xl4 → ((ob hv2 al0 11) ∧ wp_X12_deep hv2 al0 xl4 xl3 xl2 (fun hv5 iv6 => (ob hv5 al0 11) ∧ (∃ rv7, aP hv5 al0 6 = some rv7 ∧ ((ob hv5 rv7 13) ∧ ((vp_in (((99 : Int32) + ((3 : Int32) * xl1)) + (2 : Int32)) (aL hv5 rv7)) ∧ (((aI hv5 rv7 (((99 : Int32) + ((3 : Int32) * xl1)) + (2 : Int32)).toNatClampNeg) ≤ iv6 → (∀ iv8 : Int32, iv8 = xl4 + 1 → (K41 hv5 al0 xl1 xl2 xl3 iv8))) ∧ (¬ (aI hv5 rv7 (((99 : Int32) + ((3 : Int32) * xl1)) + (2 : Int32)).toNatClampNeg) ≤ iv6 → (((0 : Int32) = 0 ∨ (0 : Int32) = 1) ∧ post hv5 0))))))))))))))
set_option maxRecDepth 100000 in
theorem tb_X12_doesFloat_41 {G : GG} {p : Program} {l : Launch} {e : Env} {R : Room} {s : State} {m : MethodId} {args : Array Value} {below : List Frame} {meth : Method} {c : Code} {n0 s0 : Nat} {post : AH → Int32 → Prop} (C : Cx G p R s m args meth c 5 cX12_doesFloat RX12 n0 s0 1 24) (hr : meth.sig.returnType = (some .boolean)) {K11 : AH → Nat → Int32 → Int32 → Int32 → Prop} {K41 : AH → Nat → Int32 → Int32 → Int32 → Int32 → Prop} (hK11 : ∀ (h : AH) (al0 : Nat) (xl1 : Int32) (xl2 : Int32) (xl3 : Int32), K11 h al0 xl1 xl2 xl3 → AW G p l e R s m args below meth c 5 (QM G (pI post) args s below n0 s0) 11 [(0, .ref (G.1 + al0)), (1, .int xl1), (2, .int xl2), (3, .int xl3)] [] h) (hK41 : ∀ (h : AH) (al0 : Nat) (xl1 : Int32) (xl2 : Int32) (xl3 : Int32) (xl4 : Int32), K41 h al0 xl1 xl2 xl3 xl4 → AW G p l e R s m args below meth c 5 (QM G (pI post) args s below n0 s0) 41 [(0, .ref (G.1 + al0)), (1, .int xl1), (2, .int xl2), (3, .int xl3), (4, .int xl4)] [] h) {h : AH} {al0 : Nat} {xl1 : Int32} {xl2 : Int32} {xl3 : Int32} {xl4 : Int32}  (hw : wb_X12_doesFloat_41 K11 K41 h al0 xl1 xl2 xl3 xl4 post) : AW G p l e R s m args below meth c 5 (QM G (pI post) args s below n0 s0) 41 [(0, .ref (G.1 + al0)), (1, .int xl1), (2, .int xl2), (3, .int xl3), (4, .int xl4)] [] h := by
  unfold wb_X12_doesFloat_41 at hw
  refine r_iload C dX12_doesFloat_41 4 rfl ?_
  refine r_aload_n C dX12_doesFloat_43 0 rfl ?_
  have hob := hw.1
  obtain ⟨rv1, hp, hw⟩ := hw.2
  refine r_getP C fl_RX12_50_11 hob hp (fun _ _ _ => rfl) dX12_doesFloat_44 ?_
  refine r_iconst (v := 3) C dX12_doesFloat_47 (by decide) ?_
  refine r_iload_n C dX12_doesFloat_48 1 rfl ?_
  refine r_imul C dX12_doesFloat_49 ?_
  refine r_iaload C hw.1 hw.2.1 dX12_doesFloat_50 ?_
  replace hw := hw.2.2
  refine r_aload_n C dX12_doesFloat_51 0 rfl ?_
  refine r_iload_n C dX12_doesFloat_52 1 rfl ?_
  have hob := hw.1
  replace hw := hw.2
  refine r_callV C (As := [.int xl1]) (rest := [.int (aI h rv1 ((3 : Int32) * xl1).toNatClampNeg), .int xl4]) (c_X12_wide G h al0 xl1 _ hw) yl_X12_wide (gm7 (List.mem_of_getElem? (i := 227) rfl) rfl) (gm7 (List.mem_of_getElem? (i := 229) rfl) rfl) (ci := 11) rfl (by decide) (gsel (List.mem_of_getElem? (i := 57) rfl)) hob (by decide) rfl (Nat.le_of_ble_eq_true rfl) dX12_doesFloat_53 rfl (kI fun hv2 iv3 hw => ?_)
  refine r_iadd C dX12_doesFloat_56 ?_
  refine r_icmp_ge C dX12_doesFloat_57 92 (by decide) (fun hc => ?_) (fun hc => ?_)
  · replace hw := hw.1 hc
    obtain ⟨iv4, eiv4⟩ : ∃ q : Int32, q = xl3 + 1 := ⟨_, rfl⟩
    replace hw := hw iv4 eiv4
    refine r_iinc C dX12_doesFloat_92 3 rfl (by rw [eiv4]; rfl) [(3, .int iv4), (0, .ref (G.1 + al0)), (1, .int xl1), (2, .int xl2), (4, .int xl4)] (by decide) rfl ?_
    refine r_goto C dX12_doesFloat_95 11 (by decide) ?_
    refine r_sub [1, 2, 3, 0] rfl ?_
    exact hK11 _ _ _ _ _ hw
  · replace hw := hw.2 hc
    refine r_aload_n C dX12_doesFloat_60 0 rfl ?_
    refine r_iload C dX12_doesFloat_61 4 rfl ?_
    refine r_iload_n C dX12_doesFloat_63 3 rfl ?_
    refine r_iload_n C dX12_doesFloat_64 2 rfl ?_
    have hob := hw.1
    replace hw := hw.2
    refine r_callV C (As := [.int xl4, .int xl3, .int xl2]) (rest := []) (c_X12_deep G hv2 al0 xl4 xl3 xl2 _ hw) yl_X12_deep (gm8 (List.mem_of_getElem? (i := 41) rfl) rfl) (gm8 (List.mem_of_getElem? (i := 43) rfl) rfl) (ci := 11) rfl (by decide) (gsel (List.mem_of_getElem? (i := 67) rfl)) hob (by decide) rfl (Nat.le_of_ble_eq_true rfl) dX12_doesFloat_65 rfl (kI fun hv5 iv6 hw => ?_)
    refine r_aload_n C dX12_doesFloat_68 0 rfl ?_
    have hob := hw.1
    obtain ⟨rv7, hp, hw⟩ := hw.2
    refine r_getP C fl_RX12_33_11 hob hp (fun _ _ _ => rfl) dX12_doesFloat_69 ?_
    refine r_bipush (v := 99) C dX12_doesFloat_72 (by decide) ?_
    refine r_iconst (v := 3) C dX12_doesFloat_74 (by decide) ?_
    refine r_iload_n C dX12_doesFloat_75 1 rfl ?_
    refine r_imul C dX12_doesFloat_76 ?_
    refine r_iadd C dX12_doesFloat_77 ?_
    refine r_iconst (v := 2) C dX12_doesFloat_78 (by decide) ?_
    refine r_iadd C dX12_doesFloat_79 ?_
    refine r_iaload C hw.1 hw.2.1 dX12_doesFloat_80 ?_
    replace hw := hw.2.2
    refine r_icmp_ge C dX12_doesFloat_81 86 (by decide) (fun hc => ?_) (fun hc => ?_)
    · replace hw := hw.1 hc
      obtain ⟨iv8, eiv8⟩ : ∃ q : Int32, q = xl4 + 1 := ⟨_, rfl⟩
      replace hw := hw iv8 eiv8
      refine r_iinc C dX12_doesFloat_86 4 rfl (by rw [eiv8]; rfl) [(4, .int iv8), (0, .ref (G.1 + al0)), (1, .int xl1), (2, .int xl2), (3, .int xl3)] (by decide) rfl ?_
      refine r_goto C dX12_doesFloat_89 41 (by decide) ?_
      refine r_sub [1, 2, 3, 4, 0] rfl ?_
      exact hK41 _ _ _ _ _ _ hw
    · replace hw := hw.2 hc
      refine r_iconst (v := 0) C dX12_doesFloat_84 (by decide) ?_
      exact r_zret C hr dX12_doesFloat_85 hw.1 hw.2
def wl_X12_doesFloat_41 (K11 : AH → Nat → Int32 → Int32 → Int32 → Prop) (post : AH → Int32 → Prop) : Nat → AH → Nat → Int32 → Int32 → Int32 → Int32 → Prop
  | 0 => fun _ _ _ _ _ _ => False
  | n + 1 => fun h al0 xl1 xl2 xl3 xl4 => wb_X12_doesFloat_41 K11 (wl_X12_doesFloat_41 K11 post n) h al0 xl1 xl2 xl3 xl4 post
theorem tl_X12_doesFloat_41 {G : GG} {p : Program} {l : Launch} {e : Env} {R : Room} {s : State} {m : MethodId} {args : Array Value} {below : List Frame} {meth : Method} {c : Code} {n0 s0 : Nat} {post : AH → Int32 → Prop} (C : Cx G p R s m args meth c 5 cX12_doesFloat RX12 n0 s0 1 24) (hr : meth.sig.returnType = (some .boolean)) {K11 : AH → Nat → Int32 → Int32 → Int32 → Prop} (hK11 : ∀ (h : AH) (al0 : Nat) (xl1 : Int32) (xl2 : Int32) (xl3 : Int32), K11 h al0 xl1 xl2 xl3 → AW G p l e R s m args below meth c 5 (QM G (pI post) args s below n0 s0) 11 [(0, .ref (G.1 + al0)), (1, .int xl1), (2, .int xl2), (3, .int xl3)] [] h) : ∀ (n : Nat) (h : AH) (al0 : Nat) (xl1 : Int32) (xl2 : Int32) (xl3 : Int32) (xl4 : Int32), wl_X12_doesFloat_41 K11 post n h al0 xl1 xl2 xl3 xl4 → AW G p l e R s m args below meth c 5 (QM G (pI post) args s below n0 s0) 41 [(0, .ref (G.1 + al0)), (1, .int xl1), (2, .int xl2), (3, .int xl3), (4, .int xl4)] [] h := by
  intro n
  induction n with
  | zero => intro h al0 xl1 xl2 xl3 xl4 hw; exact hw.elim
  | succ n ih => intro h al0 xl1 xl2 xl3 xl4 hw; exact tb_X12_doesFloat_41 C hr hK11 ih hw
def wb_X12_doesFloat_11 (K11 : AH → Nat → Int32 → Int32 → Int32 → Prop) (h : AH) (al0 : Nat) (xl1 : Int32) (xl2 : Int32) (xl3 : Int32)  (post : AH → Int32 → Prop) : Prop := (ob h al0 11) ∧ (∃ rv1, aP h al0 24 = some rv1 ∧ ((ob h rv1 13) ∧ ((vp_in (((3 : Int32) * xl1) + (1 : Int32)) (aL h rv1)) ∧ ((ob h al0 11) ∧ wp_X12_high h al0 xl1 (fun hv2 iv3 => (((aI h rv1 (((3 : Int32) * xl1) + (1 : Int32)).toNatClampNeg) + iv3) ≤ xl3 → (((1 : Int32) = 0 ∨ (1 : Int32) = 1) ∧ post hv2 1)) ∧ (¬ ((aI h rv1 (((3 : Int32) * xl1) + (1 : Int32)).toNatClampNeg) + iv3) ≤ xl3 → ((ob hv2 al0 11) ∧ (∃ rv4, aP hv2 al0 24 = some rv4 ∧ ((ob hv2 rv4 13) ∧ ((vp_in ((3 : Int32) * xl1) (aL hv2 rv4)) ∧ (∀ iv5 : Int32, iv5 = aI hv2 rv4 ((3 : Int32) * xl1).toNatClampNeg → (∃ n, wl_X12_doesFloat_41 K11 post n hv2 al0 xl1 xl2 xl3 iv5))))))))))))
set_option maxRecDepth 100000 in
theorem tb_X12_doesFloat_11 {G : GG} {p : Program} {l : Launch} {e : Env} {R : Room} {s : State} {m : MethodId} {args : Array Value} {below : List Frame} {meth : Method} {c : Code} {n0 s0 : Nat} {post : AH → Int32 → Prop} (C : Cx G p R s m args meth c 5 cX12_doesFloat RX12 n0 s0 1 24) (hr : meth.sig.returnType = (some .boolean)) {K11 : AH → Nat → Int32 → Int32 → Int32 → Prop} (hK11 : ∀ (h : AH) (al0 : Nat) (xl1 : Int32) (xl2 : Int32) (xl3 : Int32), K11 h al0 xl1 xl2 xl3 → AW G p l e R s m args below meth c 5 (QM G (pI post) args s below n0 s0) 11 [(0, .ref (G.1 + al0)), (1, .int xl1), (2, .int xl2), (3, .int xl3)] [] h) {h : AH} {al0 : Nat} {xl1 : Int32} {xl2 : Int32} {xl3 : Int32}  (hw : wb_X12_doesFloat_11 K11 h al0 xl1 xl2 xl3 post) : AW G p l e R s m args below meth c 5 (QM G (pI post) args s below n0 s0) 11 [(0, .ref (G.1 + al0)), (1, .int xl1), (2, .int xl2), (3, .int xl3)] [] h := by
  unfold wb_X12_doesFloat_11 at hw
  refine r_iload_n C dX12_doesFloat_11 3 rfl ?_
  refine r_aload_n C dX12_doesFloat_12 0 rfl ?_
  have hob := hw.1
  obtain ⟨rv1, hp, hw⟩ := hw.2
  refine r_getP C fl_RX12_50_11 hob hp (fun _ _ _ => rfl) dX12_doesFloat_13 ?_
  refine r_iconst (v := 3) C dX12_doesFloat_16 (by decide) ?_
  refine r_iload_n C dX12_doesFloat_17 1 rfl ?_
  refine r_imul C dX12_doesFloat_18 ?_
  refine r_iconst (v := 1) C dX12_doesFloat_19 (by decide) ?_
  refine r_iadd C dX12_doesFloat_20 ?_
  refine r_iaload C hw.1 hw.2.1 dX12_doesFloat_21 ?_
  replace hw := hw.2.2
  refine r_aload_n C dX12_doesFloat_22 0 rfl ?_
  refine r_iload_n C dX12_doesFloat_23 1 rfl ?_
  have hob := hw.1
  replace hw := hw.2
  refine r_callV C (As := [.int xl1]) (rest := [.int (aI h rv1 (((3 : Int32) * xl1) + (1 : Int32)).toNatClampNeg), .int xl3]) (c_X12_high G h al0 xl1 _ hw) yl_X12_high (gm7 (List.mem_of_getElem? (i := 234) rfl) rfl) (gm7 (List.mem_of_getElem? (i := 236) rfl) rfl) (ci := 11) rfl (by decide) (gsel (List.mem_of_getElem? (i := 58) rfl)) hob (by decide) rfl (Nat.le_of_ble_eq_true rfl) dX12_doesFloat_24 rfl (kI fun hv2 iv3 hw => ?_)
  refine r_iadd C dX12_doesFloat_27 ?_
  refine r_icmp_ge C dX12_doesFloat_28 98 (by decide) (fun hc => ?_) (fun hc => ?_)
  · replace hw := hw.1 hc
    refine r_iconst (v := 1) C dX12_doesFloat_98 (by decide) ?_
    exact r_zret C hr dX12_doesFloat_99 hw.1 hw.2
  · replace hw := hw.2 hc
    refine r_aload_n C dX12_doesFloat_31 0 rfl ?_
    have hob := hw.1
    obtain ⟨rv4, hp, hw⟩ := hw.2
    refine r_getP C fl_RX12_50_11 hob hp (fun _ _ _ => rfl) dX12_doesFloat_32 ?_
    refine r_iconst (v := 3) C dX12_doesFloat_35 (by decide) ?_
    refine r_iload_n C dX12_doesFloat_36 1 rfl ?_
    refine r_imul C dX12_doesFloat_37 ?_
    refine r_iaload C hw.1 hw.2.1 dX12_doesFloat_38 ?_
    replace hw := hw.2.2
    refine r_topi fun iv5 eiv5 => ?_
    replace hw := hw iv5 eiv5
    refine r_istore C dX12_doesFloat_39 [(4, .int iv5), (0, .ref (G.1 + al0)), (1, .int xl1), (2, .int xl2), (3, .int xl3)] (by decide) rfl ?_
    refine r_sub [1, 2, 3, 4, 0] rfl ?_
    obtain ⟨n, hw⟩ := hw
    exact tl_X12_doesFloat_41 C hr hK11 n _ _ _ _ _ _ hw
def wl_X12_doesFloat_11  (post : AH → Int32 → Prop) : Nat → AH → Nat → Int32 → Int32 → Int32 → Prop
  | 0 => fun _ _ _ _ _ => False
  | n + 1 => fun h al0 xl1 xl2 xl3 => wb_X12_doesFloat_11  (wl_X12_doesFloat_11  post n) h al0 xl1 xl2 xl3 post
theorem tl_X12_doesFloat_11 {G : GG} {p : Program} {l : Launch} {e : Env} {R : Room} {s : State} {m : MethodId} {args : Array Value} {below : List Frame} {meth : Method} {c : Code} {n0 s0 : Nat} {post : AH → Int32 → Prop} (C : Cx G p R s m args meth c 5 cX12_doesFloat RX12 n0 s0 1 24) (hr : meth.sig.returnType = (some .boolean))   : ∀ (n : Nat) (h : AH) (al0 : Nat) (xl1 : Int32) (xl2 : Int32) (xl3 : Int32), wl_X12_doesFloat_11  post n h al0 xl1 xl2 xl3 → AW G p l e R s m args below meth c 5 (QM G (pI post) args s below n0 s0) 11 [(0, .ref (G.1 + al0)), (1, .int xl1), (2, .int xl2), (3, .int xl3)] [] h := by
  intro n
  induction n with
  | zero => intro h al0 xl1 xl2 xl3 hw; exact hw.elim
  | succ n ih => intro h al0 xl1 xl2 xl3 hw; exact tb_X12_doesFloat_11 C hr  ih hw
def wp_X12_doesFloat (h : AH) (a0 : Nat) (x1 : Int32) (x2 : Int32) (post : AH → Int32 → Prop) : Prop := (ob h a0 11) ∧ (∃ rv1, aP h a0 24 = some rv1 ∧ ((ob h rv1 13) ∧ ((vp_in (((3 : Int32) * x1) + (1 : Int32)) (aL h rv1)) ∧ (∀ iv2 : Int32, iv2 = aI h rv1 (((3 : Int32) * x1) + (1 : Int32)).toNatClampNeg → (∃ n, wl_X12_doesFloat_11  post n h a0 x1 x2 iv2)))))
set_option maxRecDepth 100000 in
theorem c_X12_doesFloat (G : GG) (h : AH) (a0 : Nat) (x1 : Int32) (x2 : Int32) (post : AH → Int32 → Prop) (hw : wp_X12_doesFloat h a0 x1 x2 post) : MC G yX12_doesFloat cX12_doesFloat 5 (some .boolean) 1 24 h [.ref (G.1 + a0), .int x1, .int x2] (pI post) := by
  refine MC.of (lv := [(0, .ref (G.1 + a0)), (1, .int x1), (2, .int x2)]) (by decide) (Nat.le_of_ble_eq_true rfl) rfl fun p l e R s m args below meth c C hr hnm => ?_
  unfold wp_X12_doesFloat at hw
  refine r_aload_n C dX12_doesFloat_0 0 rfl ?_
  have hob := hw.1
  obtain ⟨rv1, hp, hw⟩ := hw.2
  refine r_getP C fl_RX12_50_11 hob hp (fun _ _ _ => rfl) dX12_doesFloat_1 ?_
  refine r_iconst (v := 3) C dX12_doesFloat_4 (by decide) ?_
  refine r_iload_n C dX12_doesFloat_5 1 rfl ?_
  refine r_imul C dX12_doesFloat_6 ?_
  refine r_iconst (v := 1) C dX12_doesFloat_7 (by decide) ?_
  refine r_iadd C dX12_doesFloat_8 ?_
  refine r_iaload C hw.1 hw.2.1 dX12_doesFloat_9 ?_
  replace hw := hw.2.2
  refine r_topi fun iv2 eiv2 => ?_
  replace hw := hw iv2 eiv2
  refine r_istore_n C dX12_doesFloat_10 [(3, .int iv2), (0, .ref (G.1 + a0)), (1, .int x1), (2, .int x2)] (by decide) rfl ?_
  refine r_sub [1, 2, 3, 0] rfl ?_
  obtain ⟨n, hw⟩ := hw
  exact tl_X12_doesFloat_11 C hr  n _ _ _ _ _ hw
theorem dX12_isTooFar_0 : decode cX12_isTooFar 0 = .ok (.iconst 0, 1) := by decide +kernel
theorem dX12_isTooFar_1 : decode cX12_isTooFar 1 = .ok (.istore_n 2, 1) := by decide +kernel
theorem dX12_isTooFar_2 : decode cX12_isTooFar 2 = .ok (.iload_n 2, 1) := by decide +kernel
theorem dX12_isTooFar_3 : decode cX12_isTooFar 3 = .ok (.aload_n 0, 1) := by decide +kernel
theorem dX12_isTooFar_4 : decode cX12_isTooFar 4 = .ok (.getfield 33, 3) := by decide +kernel
theorem dX12_isTooFar_7 : decode cX12_isTooFar 7 = .ok (.iconst 4, 1) := by decide +kernel
theorem dX12_isTooFar_8 : decode cX12_isTooFar 8 = .ok (.iaload, 1) := by decide +kernel
theorem dX12_isTooFar_9 : decode cX12_isTooFar 9 = .ok (.if_icmp .ge 75, 3) := by decide +kernel
theorem dX12_isTooFar_12 : decode cX12_isTooFar 12 = .ok (.aload_n 0, 1) := by decide +kernel
theorem dX12_isTooFar_13 : decode cX12_isTooFar 13 = .ok (.getfield 33, 3) := by decide +kernel
theorem dX12_isTooFar_16 : decode cX12_isTooFar 16 = .ok (.sipush 135, 3) := by decide +kernel
theorem dX12_isTooFar_19 : decode cX12_isTooFar 19 = .ok (.iconst 4, 1) := by decide +kernel
theorem dX12_isTooFar_20 : decode cX12_isTooFar 20 = .ok (.iload_n 2, 1) := by decide +kernel
theorem dX12_isTooFar_21 : decode cX12_isTooFar 21 = .ok (.imul, 1) := by decide +kernel
theorem dX12_isTooFar_22 : decode cX12_isTooFar 22 = .ok (.iadd, 1) := by decide +kernel
theorem dX12_isTooFar_23 : decode cX12_isTooFar 23 = .ok (.iaload, 1) := by decide +kernel
theorem dX12_isTooFar_24 : decode cX12_isTooFar 24 = .ok (.istore_n 3, 1) := by decide +kernel
theorem dX12_isTooFar_25 : decode cX12_isTooFar 25 = .ok (.aload_n 0, 1) := by decide +kernel
theorem dX12_isTooFar_26 : decode cX12_isTooFar 26 = .ok (.getfield 33, 3) := by decide +kernel
theorem dX12_isTooFar_29 : decode cX12_isTooFar 29 = .ok (.sipush 135, 3) := by decide +kernel
theorem dX12_isTooFar_32 : decode cX12_isTooFar 32 = .ok (.iconst 4, 1) := by decide +kernel
theorem dX12_isTooFar_33 : decode cX12_isTooFar 33 = .ok (.iload_n 2, 1) := by decide +kernel
theorem dX12_isTooFar_34 : decode cX12_isTooFar 34 = .ok (.imul, 1) := by decide +kernel
theorem dX12_isTooFar_35 : decode cX12_isTooFar 35 = .ok (.iadd, 1) := by decide +kernel
theorem dX12_isTooFar_36 : decode cX12_isTooFar 36 = .ok (.iconst 1, 1) := by decide +kernel
theorem dX12_isTooFar_37 : decode cX12_isTooFar 37 = .ok (.iadd, 1) := by decide +kernel
theorem dX12_isTooFar_38 : decode cX12_isTooFar 38 = .ok (.iaload, 1) := by decide +kernel
theorem dX12_isTooFar_39 : decode cX12_isTooFar 39 = .ok (.istore 4, 2) := by decide +kernel
theorem dX12_isTooFar_41 : decode cX12_isTooFar 41 = .ok (.iload_n 3, 1) := by decide +kernel
theorem dX12_isTooFar_42 : decode cX12_isTooFar 42 = .ok (.iload_n 1, 1) := by decide +kernel
theorem dX12_isTooFar_43 : decode cX12_isTooFar 43 = .ok (.if_icmp .eq 9, 3) := by decide +kernel
theorem dX12_isTooFar_46 : decode cX12_isTooFar 46 = .ok (.iload 4, 2) := by decide +kernel
theorem dX12_isTooFar_48 : decode cX12_isTooFar 48 = .ok (.iload_n 1, 1) := by decide +kernel
theorem dX12_isTooFar_49 : decode cX12_isTooFar 49 = .ok (.if_icmp .ne 29, 3) := by decide +kernel
theorem dX12_isTooFar_52 : decode cX12_isTooFar 52 = .ok (.aload_n 0, 1) := by decide +kernel
theorem dX12_isTooFar_53 : decode cX12_isTooFar 53 = .ok (.iload_n 3, 1) := by decide +kernel
theorem dX12_isTooFar_54 : decode cX12_isTooFar 54 = .ok (.iload 4, 2) := by decide +kernel
theorem dX12_isTooFar_56 : decode cX12_isTooFar 56 = .ok (.invokevirtual 262, 3) := by decide +kernel
theorem dX12_isTooFar_59 : decode cX12_isTooFar 59 = .ok (.aload_n 0, 1) := by decide +kernel
theorem dX12_isTooFar_60 : decode cX12_isTooFar 60 = .ok (.getfield 33, 3) := by decide +kernel
theorem dX12_isTooFar_63 : decode cX12_isTooFar 63 = .ok (.sipush 135, 3) := by decide +kernel
theorem dX12_isTooFar_66 : decode cX12_isTooFar 66 = .ok (.iconst 4, 1) := by decide +kernel
theorem dX12_isTooFar_67 : decode cX12_isTooFar 67 = .ok (.iload_n 2, 1) := by decide +kernel
theorem dX12_isTooFar_68 : decode cX12_isTooFar 68 = .ok (.imul, 1) := by decide +kernel
theorem dX12_isTooFar_69 : decode cX12_isTooFar 69 = .ok (.iadd, 1) := by decide +kernel
theorem dX12_isTooFar_70 : decode cX12_isTooFar 70 = .ok (.iconst 2, 1) := by decide +kernel
theorem dX12_isTooFar_71 : decode cX12_isTooFar 71 = .ok (.iadd, 1) := by decide +kernel
theorem dX12_isTooFar_72 : decode cX12_isTooFar 72 = .ok (.iaload, 1) := by decide +kernel
theorem dX12_isTooFar_73 : decode cX12_isTooFar 73 = .ok (.if_icmp .le 5, 3) := by decide +kernel
theorem dX12_isTooFar_76 : decode cX12_isTooFar 76 = .ok (.iconst 1, 1) := by decide +kernel
theorem dX12_isTooFar_77 : decode cX12_isTooFar 77 = .ok (.ireturn, 1) := by decide +kernel
theorem dX12_isTooFar_78 : decode cX12_isTooFar 78 = .ok (.iinc 2 1, 3) := by decide +kernel
theorem dX12_isTooFar_81 : decode cX12_isTooFar 81 = .ok (.goto (-79), 3) := by decide +kernel
theorem dX12_isTooFar_84 : decode cX12_isTooFar 84 = .ok (.iconst 0, 1) := by decide +kernel
theorem dX12_isTooFar_85 : decode cX12_isTooFar 85 = .ok (.ireturn, 1) := by decide +kernel
def wb_X12_isTooFar_78 (K2 : AH → Nat → Int32 → Int32 → Prop) (h : AH) (al0 : Nat) (xl1 : Int32) (xl2 : Int32)  (post : AH → Int32 → Prop) : Prop := ∀ iv1 : Int32, iv1 = xl2 + 1 → (K2 h al0 xl1 iv1)
set_option maxRecDepth 100000 in
theorem tb_X12_isTooFar_78 {G : GG} {p : Program} {l : Launch} {e : Env} {R : Room} {s : State} {m : MethodId} {args : Array Value} {below : List Frame} {meth : Method} {c : Code} {n0 s0 : Nat} {post : AH → Int32 → Prop} (C : Cx G p R s m args meth c 5 cX12_isTooFar RX12 n0 s0 2 47) (hr : meth.sig.returnType = (some .boolean)) {K2 : AH → Nat → Int32 → Int32 → Prop} (hK2 : ∀ (h : AH) (al0 : Nat) (xl1 : Int32) (xl2 : Int32), K2 h al0 xl1 xl2 → AW G p l e R s m args below meth c 5 (QM G (pI post) args s below n0 s0) 2 [(0, .ref (G.1 + al0)), (1, .int xl1), (2, .int xl2)] [] h) {h : AH} {al0 : Nat} {xl1 : Int32} {xl2 : Int32}  (hw : wb_X12_isTooFar_78 K2 h al0 xl1 xl2 post) : AW G p l e R s m args below meth c 5 (QM G (pI post) args s below n0 s0) 78 [(0, .ref (G.1 + al0)), (1, .int xl1), (2, .int xl2)] [] h := by
  unfold wb_X12_isTooFar_78 at hw
  obtain ⟨iv1, eiv1⟩ : ∃ q : Int32, q = xl2 + 1 := ⟨_, rfl⟩
  replace hw := hw iv1 eiv1
  refine r_iinc C dX12_isTooFar_78 2 rfl (by rw [eiv1]; rfl) [(2, .int iv1), (0, .ref (G.1 + al0)), (1, .int xl1)] (by decide) rfl ?_
  refine r_goto C dX12_isTooFar_81 2 (by decide) ?_
  refine r_sub [1, 2, 0] rfl ?_
  exact hK2 _ _ _ _ hw
def wb_X12_isTooFar_52 (K2 : AH → Nat → Int32 → Int32 → Prop) (h : AH) (al0 : Nat) (xl1 : Int32) (xl2 : Int32) (xl3 : Int32) (xl4 : Int32)  (post : AH → Int32 → Prop) : Prop := (ob h al0 11) ∧ wp_X12_gapOf h al0 xl3 xl4 (fun hv1 iv2 => (ob hv1 al0 11) ∧ (∃ rv3, aP hv1 al0 6 = some rv3 ∧ ((ob hv1 rv3 13) ∧ ((vp_in (((135 : Int32) + ((4 : Int32) * xl2)) + (2 : Int32)) (aL hv1 rv3)) ∧ ((iv2 ≤ (aI hv1 rv3 (((135 : Int32) + ((4 : Int32) * xl2)) + (2 : Int32)).toNatClampNeg) → (wb_X12_isTooFar_78 K2 hv1 al0 xl1 xl2 post)) ∧ (¬ iv2 ≤ (aI hv1 rv3 (((135 : Int32) + ((4 : Int32) * xl2)) + (2 : Int32)).toNatClampNeg) → (((1 : Int32) = 0 ∨ (1 : Int32) = 1) ∧ post hv1 1)))))))
set_option maxRecDepth 100000 in
theorem tb_X12_isTooFar_52 {G : GG} {p : Program} {l : Launch} {e : Env} {R : Room} {s : State} {m : MethodId} {args : Array Value} {below : List Frame} {meth : Method} {c : Code} {n0 s0 : Nat} {post : AH → Int32 → Prop} (C : Cx G p R s m args meth c 5 cX12_isTooFar RX12 n0 s0 2 47) (hr : meth.sig.returnType = (some .boolean)) {K2 : AH → Nat → Int32 → Int32 → Prop} (hK2 : ∀ (h : AH) (al0 : Nat) (xl1 : Int32) (xl2 : Int32), K2 h al0 xl1 xl2 → AW G p l e R s m args below meth c 5 (QM G (pI post) args s below n0 s0) 2 [(0, .ref (G.1 + al0)), (1, .int xl1), (2, .int xl2)] [] h) {h : AH} {al0 : Nat} {xl1 : Int32} {xl2 : Int32} {xl3 : Int32} {xl4 : Int32}  (hw : wb_X12_isTooFar_52 K2 h al0 xl1 xl2 xl3 xl4 post) : AW G p l e R s m args below meth c 5 (QM G (pI post) args s below n0 s0) 52 [(0, .ref (G.1 + al0)), (1, .int xl1), (2, .int xl2), (3, .int xl3), (4, .int xl4)] [] h := by
  unfold wb_X12_isTooFar_52 at hw
  refine r_aload_n C dX12_isTooFar_52 0 rfl ?_
  refine r_iload_n C dX12_isTooFar_53 3 rfl ?_
  refine r_iload C dX12_isTooFar_54 4 rfl ?_
  have hob := hw.1
  replace hw := hw.2
  refine r_callV C (As := [.int xl3, .int xl4]) (rest := []) (c_X12_gapOf G h al0 xl3 xl4 _ hw) yl_X12_gapOf (gm7 (List.mem_of_getElem? (i := 223) rfl) rfl) (gm7 (List.mem_of_getElem? (i := 225) rfl) rfl) (ci := 11) rfl (by decide) (gsel (List.mem_of_getElem? (i := 56) rfl)) hob (by decide) rfl (Nat.le_of_ble_eq_true rfl) dX12_isTooFar_56 rfl (kI fun hv1 iv2 hw => ?_)
  refine r_aload_n C dX12_isTooFar_59 0 rfl ?_
  have hob := hw.1
  obtain ⟨rv3, hp, hw⟩ := hw.2
  refine r_getP C fl_RX12_33_11 hob hp (fun _ _ _ => rfl) dX12_isTooFar_60 ?_
  refine r_sipush (v := 135) C dX12_isTooFar_63 (by decide) ?_
  refine r_iconst (v := 4) C dX12_isTooFar_66 (by decide) ?_
  refine r_iload_n C dX12_isTooFar_67 2 rfl ?_
  refine r_imul C dX12_isTooFar_68 ?_
  refine r_iadd C dX12_isTooFar_69 ?_
  refine r_iconst (v := 2) C dX12_isTooFar_70 (by decide) ?_
  refine r_iadd C dX12_isTooFar_71 ?_
  refine r_iaload C hw.1 hw.2.1 dX12_isTooFar_72 ?_
  replace hw := hw.2.2
  refine r_icmp_le C dX12_isTooFar_73 78 (by decide) (fun hc => ?_) (fun hc => ?_)
  · replace hw := hw.1 hc
    refine r_sub [0, 1, 2] rfl ?_
    exact tb_X12_isTooFar_78 C hr hK2 hw
  · replace hw := hw.2 hc
    refine r_iconst (v := 1) C dX12_isTooFar_76 (by decide) ?_
    exact r_zret C hr dX12_isTooFar_77 hw.1 hw.2
def wb_X12_isTooFar_2 (K2 : AH → Nat → Int32 → Int32 → Prop) (h : AH) (al0 : Nat) (xl1 : Int32) (xl2 : Int32)  (post : AH → Int32 → Prop) : Prop := (ob h al0 11) ∧ (∃ rv1, aP h al0 6 = some rv1 ∧ ((ob h rv1 13) ∧ ((vp_in 4 (aL h rv1)) ∧ (((aI h rv1 (4 : Int32).toNatClampNeg) ≤ xl2 → (((0 : Int32) = 0 ∨ (0 : Int32) = 1) ∧ post h 0)) ∧ (¬ (aI h rv1 (4 : Int32).toNatClampNeg) ≤ xl2 → ((ob h al0 11) ∧ (∃ rv2, aP h al0 6 = some rv2 ∧ ((ob h rv2 13) ∧ ((vp_in ((135 : Int32) + ((4 : Int32) * xl2)) (aL h rv2)) ∧ (∀ iv3 : Int32, iv3 = aI h rv2 ((135 : Int32) + ((4 : Int32) * xl2)).toNatClampNeg → ((ob h al0 11) ∧ (∃ rv4, aP h al0 6 = some rv4 ∧ ((ob h rv4 13) ∧ ((vp_in (((135 : Int32) + ((4 : Int32) * xl2)) + (1 : Int32)) (aL h rv4)) ∧ (∀ iv5 : Int32, iv5 = aI h rv4 (((135 : Int32) + ((4 : Int32) * xl2)) + (1 : Int32)).toNatClampNeg → ((iv3 = xl1 → (wb_X12_isTooFar_52 K2 h al0 xl1 xl2 iv3 iv5 post)) ∧ (¬ iv3 = xl1 → ((¬ iv5 = xl1 → (wb_X12_isTooFar_78 K2 h al0 xl1 xl2 post)) ∧ (iv5 = xl1 → (wb_X12_isTooFar_52 K2 h al0 xl1 xl2 iv3 iv5 post))))))))))))))))))))
set_option maxRecDepth 100000 in
theorem tb_X12_isTooFar_2 {G : GG} {p : Program} {l : Launch} {e : Env} {R : Room} {s : State} {m : MethodId} {args : Array Value} {below : List Frame} {meth : Method} {c : Code} {n0 s0 : Nat} {post : AH → Int32 → Prop} (C : Cx G p R s m args meth c 5 cX12_isTooFar RX12 n0 s0 2 47) (hr : meth.sig.returnType = (some .boolean)) {K2 : AH → Nat → Int32 → Int32 → Prop} (hK2 : ∀ (h : AH) (al0 : Nat) (xl1 : Int32) (xl2 : Int32), K2 h al0 xl1 xl2 → AW G p l e R s m args below meth c 5 (QM G (pI post) args s below n0 s0) 2 [(0, .ref (G.1 + al0)), (1, .int xl1), (2, .int xl2)] [] h) {h : AH} {al0 : Nat} {xl1 : Int32} {xl2 : Int32}  (hw : wb_X12_isTooFar_2 K2 h al0 xl1 xl2 post) : AW G p l e R s m args below meth c 5 (QM G (pI post) args s below n0 s0) 2 [(0, .ref (G.1 + al0)), (1, .int xl1), (2, .int xl2)] [] h := by
  unfold wb_X12_isTooFar_2 at hw
  refine r_iload_n C dX12_isTooFar_2 2 rfl ?_
  refine r_aload_n C dX12_isTooFar_3 0 rfl ?_
  have hob := hw.1
  obtain ⟨rv1, hp, hw⟩ := hw.2
  refine r_getP C fl_RX12_33_11 hob hp (fun _ _ _ => rfl) dX12_isTooFar_4 ?_
  refine r_iconst (v := 4) C dX12_isTooFar_7 (by decide) ?_
  refine r_iaload C hw.1 hw.2.1 dX12_isTooFar_8 ?_
  replace hw := hw.2.2
  refine r_icmp_ge C dX12_isTooFar_9 84 (by decide) (fun hc => ?_) (fun hc => ?_)
  · replace hw := hw.1 hc
    refine r_iconst (v := 0) C dX12_isTooFar_84 (by decide) ?_
    exact r_zret C hr dX12_isTooFar_85 hw.1 hw.2
  · replace hw := hw.2 hc
    refine r_aload_n C dX12_isTooFar_12 0 rfl ?_
    have hob := hw.1
    obtain ⟨rv2, hp, hw⟩ := hw.2
    refine r_getP C fl_RX12_33_11 hob hp (fun _ _ _ => rfl) dX12_isTooFar_13 ?_
    refine r_sipush (v := 135) C dX12_isTooFar_16 (by decide) ?_
    refine r_iconst (v := 4) C dX12_isTooFar_19 (by decide) ?_
    refine r_iload_n C dX12_isTooFar_20 2 rfl ?_
    refine r_imul C dX12_isTooFar_21 ?_
    refine r_iadd C dX12_isTooFar_22 ?_
    refine r_iaload C hw.1 hw.2.1 dX12_isTooFar_23 ?_
    replace hw := hw.2.2
    refine r_topi fun iv3 eiv3 => ?_
    replace hw := hw iv3 eiv3
    refine r_istore_n C dX12_isTooFar_24 [(3, .int iv3), (0, .ref (G.1 + al0)), (1, .int xl1), (2, .int xl2)] (by decide) rfl ?_
    refine r_aload_n C dX12_isTooFar_25 1 rfl ?_
    have hob := hw.1
    obtain ⟨rv4, hp, hw⟩ := hw.2
    refine r_getP C fl_RX12_33_11 hob hp (fun _ _ _ => rfl) dX12_isTooFar_26 ?_
    refine r_sipush (v := 135) C dX12_isTooFar_29 (by decide) ?_
    refine r_iconst (v := 4) C dX12_isTooFar_32 (by decide) ?_
    refine r_iload_n C dX12_isTooFar_33 3 rfl ?_
    refine r_imul C dX12_isTooFar_34 ?_
    refine r_iadd C dX12_isTooFar_35 ?_
    refine r_iconst (v := 1) C dX12_isTooFar_36 (by decide) ?_
    refine r_iadd C dX12_isTooFar_37 ?_
    refine r_iaload C hw.1 hw.2.1 dX12_isTooFar_38 ?_
    replace hw := hw.2.2
    refine r_topi fun iv5 eiv5 => ?_
    replace hw := hw iv5 eiv5
    refine r_istore C dX12_isTooFar_39 [(4, .int iv5), (3, .int iv3), (0, .ref (G.1 + al0)), (1, .int xl1), (2, .int xl2)] (by decide) rfl ?_
    refine r_iload_n C dX12_isTooFar_41 1 rfl ?_
    refine r_iload_n C dX12_isTooFar_42 3 rfl ?_
    refine r_icmp_eq C dX12_isTooFar_43 52 (by decide) (fun hc => ?_) (fun hc => ?_)
    · replace hw := hw.1 hc
      refine r_sub [2, 3, 4, 1, 0] rfl ?_
      exact tb_X12_isTooFar_52 C hr hK2 hw
    · replace hw := hw.2 hc
      refine r_iload C dX12_isTooFar_46 0 rfl ?_
      refine r_iload_n C dX12_isTooFar_48 3 rfl ?_
      refine r_icmp_ne C dX12_isTooFar_49 78 (by decide) (fun hc => ?_) (fun hc => ?_)
      · replace hw := hw.1 hc
        refine r_sub [2, 3, 4] rfl ?_
        exact tb_X12_isTooFar_78 C hr hK2 hw
      · replace hw := hw.2 hc
        refine r_sub [2, 3, 4, 1, 0] rfl ?_
        exact tb_X12_isTooFar_52 C hr hK2 hw
def wl_X12_isTooFar_2  (post : AH → Int32 → Prop) : Nat → AH → Nat → Int32 → Int32 → Prop
  | 0 => fun _ _ _ _ => False
  | n + 1 => fun h al0 xl1 xl2 => wb_X12_isTooFar_2  (wl_X12_isTooFar_2  post n) h al0 xl1 xl2 post
theorem tl_X12_isTooFar_2 {G : GG} {p : Program} {l : Launch} {e : Env} {R : Room} {s : State} {m : MethodId} {args : Array Value} {below : List Frame} {meth : Method} {c : Code} {n0 s0 : Nat} {post : AH → Int32 → Prop} (C : Cx G p R s m args meth c 5 cX12_isTooFar RX12 n0 s0 2 47) (hr : meth.sig.returnType = (some .boolean))   : ∀ (n : Nat) (h : AH) (al0 : Nat) (xl1 : Int32) (xl2 : Int32), wl_X12_isTooFar_2  post n h al0 xl1 xl2 → AW G p l e R s m args below meth c 5 (QM G (pI post) args s below n0 s0) 2 [(0, .ref (G.1 + al0)), (1, .int xl1), (2, .int xl2)] [] h := by
  intro n
  induction n with
  | zero => intro h al0 xl1 xl2 hw; exact hw.elim
  | succ n ih => intro h al0 xl1 xl2 hw; exact tb_X12_isTooFar_2 C hr  ih hw
def wp_X12_isTooFar (h : AH) (a0 : Nat) (x1 : Int32) (post : AH → Int32 → Prop) : Prop := ∃ n, wl_X12_isTooFar_2  post n h a0 x1 0
set_option maxRecDepth 100000 in
theorem c_X12_isTooFar (G : GG) (h : AH) (a0 : Nat) (x1 : Int32) (post : AH → Int32 → Prop) (hw : wp_X12_isTooFar h a0 x1 post) : MC G yX12_isTooFar cX12_isTooFar 5 (some .boolean) 2 47 h [.ref (G.1 + a0), .int x1] (pI post) := by
  refine MC.of (lv := [(0, .ref (G.1 + a0)), (1, .int x1)]) (by decide) (Nat.le_of_ble_eq_true rfl) rfl fun p l e R s m args below meth c C hr hnm => ?_
  unfold wp_X12_isTooFar at hw
  refine r_iconst (v := 0) C dX12_isTooFar_0 (by decide) ?_
  refine r_istore_n C dX12_isTooFar_1 [(2, .int 0), (0, .ref (G.1 + a0)), (1, .int x1)] (by decide) rfl ?_
  refine r_sub [1, 2, 0] rfl ?_
  obtain ⟨n, hw⟩ := hw
  exact tl_X12_isTooFar_2 C hr  n _ _ _ _ hw
theorem dX12_raft_0 : decode cX12_raft 0 = .ok (.aload_n 0, 1) := by decide +kernel
theorem dX12_raft_1 : decode cX12_raft 1 = .ok (.aload_n 0, 1) := by decide +kernel
theorem dX12_raft_2 : decode cX12_raft 2 = .ok (.iload_n 1, 1) := by decide +kernel
theorem dX12_raft_3 : decode cX12_raft 3 = .ok (.invokevirtual 310, 3) := by decide +kernel
theorem dX12_raft_6 : decode cX12_raft 6 = .ok (.ifCond .eq 12, 3) := by decide +kernel
theorem dX12_raft_9 : decode cX12_raft 9 = .ok (.iload_n 2, 1) := by decide +kernel
theorem dX12_raft_10 : decode cX12_raft 10 = .ok (.iconst 0, 1) := by decide +kernel
theorem dX12_raft_11 : decode cX12_raft 11 = .ok (.iconst 5, 1) := by decide +kernel
theorem dX12_raft_12 : decode cX12_raft 12 = .ok (.invokestatic 196, 3) := by decide +kernel
theorem dX12_raft_15 : decode cX12_raft 15 = .ok (.ifCond .ne 7, 3) := by decide +kernel
theorem dX12_raft_18 : decode cX12_raft 18 = .ok (.iconst 1, 1) := by decide +kernel
theorem dX12_raft_19 : decode cX12_raft 19 = .ok (.goto 4, 3) := by decide +kernel
theorem dX12_raft_22 : decode cX12_raft 22 = .ok (.iconst 0, 1) := by decide +kernel
theorem dX12_raft_23 : decode cX12_raft 23 = .ok (.invokevirtual 313, 3) := by decide +kernel
theorem dX12_raft_26 : decode cX12_raft 26 = .ok (.ifCond .eq 5, 3) := by decide +kernel
theorem dX12_raft_29 : decode cX12_raft 29 = .ok (.iconst 0, 1) := by decide +kernel
theorem dX12_raft_30 : decode cX12_raft 30 = .ok (.ireturn, 1) := by decide +kernel
theorem dX12_raft_31 : decode cX12_raft 31 = .ok (.aload_n 0, 1) := by decide +kernel
theorem dX12_raft_32 : decode cX12_raft 32 = .ok (.invokevirtual 317, 3) := by decide +kernel
theorem dX12_raft_35 : decode cX12_raft 35 = .ok (.iload_n 2, 1) := by decide +kernel
theorem dX12_raft_36 : decode cX12_raft 36 = .ok (.tableswitch 79 0 4 #[36, 45, 56, 62, 68], 36) := by decide +kernel
theorem dX12_raft_72 : decode cX12_raft 72 = .ok (.aload_n 0, 1) := by decide +kernel
theorem dX12_raft_73 : decode cX12_raft 73 = .ok (.getfield 50, 3) := by decide +kernel
theorem dX12_raft_76 : decode cX12_raft 76 = .ok (.iconst 3, 1) := by decide +kernel
theorem dX12_raft_77 : decode cX12_raft 77 = .ok (.iload_n 1, 1) := by decide +kernel
theorem dX12_raft_78 : decode cX12_raft 78 = .ok (.imul, 1) := by decide +kernel
theorem dX12_raft_79 : decode cX12_raft 79 = .ok (.iaload, 1) := by decide +kernel
theorem dX12_raft_80 : decode cX12_raft 80 = .ok (.ireturn, 1) := by decide +kernel
theorem dX12_raft_81 : decode cX12_raft 81 = .ok (.aload_n 0, 1) := by decide +kernel
theorem dX12_raft_82 : decode cX12_raft 82 = .ok (.getfield 50, 3) := by decide +kernel
theorem dX12_raft_85 : decode cX12_raft 85 = .ok (.iconst 3, 1) := by decide +kernel
theorem dX12_raft_86 : decode cX12_raft 86 = .ok (.iload_n 1, 1) := by decide +kernel
theorem dX12_raft_87 : decode cX12_raft 87 = .ok (.imul, 1) := by decide +kernel
theorem dX12_raft_88 : decode cX12_raft 88 = .ok (.iconst 1, 1) := by decide +kernel
theorem dX12_raft_89 : decode cX12_raft 89 = .ok (.iadd, 1) := by decide +kernel
theorem dX12_raft_90 : decode cX12_raft 90 = .ok (.iaload, 1) := by decide +kernel
theorem dX12_raft_91 : decode cX12_raft 91 = .ok (.ireturn, 1) := by decide +kernel
theorem dX12_raft_92 : decode cX12_raft 92 = .ok (.aload_n 0, 1) := by decide +kernel
theorem dX12_raft_93 : decode cX12_raft 93 = .ok (.iload_n 1, 1) := by decide +kernel
theorem dX12_raft_94 : decode cX12_raft 94 = .ok (.invokevirtual 297, 3) := by decide +kernel
theorem dX12_raft_97 : decode cX12_raft 97 = .ok (.ireturn, 1) := by decide +kernel
theorem dX12_raft_98 : decode cX12_raft 98 = .ok (.aload_n 0, 1) := by decide +kernel
theorem dX12_raft_99 : decode cX12_raft 99 = .ok (.iload_n 1, 1) := by decide +kernel
theorem dX12_raft_100 : decode cX12_raft 100 = .ok (.invokevirtual 300, 3) := by decide +kernel
theorem dX12_raft_103 : decode cX12_raft 103 = .ok (.ireturn, 1) := by decide +kernel
theorem dX12_raft_104 : decode cX12_raft 104 = .ok (.aload_n 0, 1) := by decide +kernel
theorem dX12_raft_105 : decode cX12_raft 105 = .ok (.getfield 53, 3) := by decide +kernel
theorem dX12_raft_108 : decode cX12_raft 108 = .ok (.iconst 3, 1) := by decide +kernel
theorem dX12_raft_109 : decode cX12_raft 109 = .ok (.iload_n 1, 1) := by decide +kernel
theorem dX12_raft_110 : decode cX12_raft 110 = .ok (.imul, 1) := by decide +kernel
theorem dX12_raft_111 : decode cX12_raft 111 = .ok (.iconst 2, 1) := by decide +kernel
theorem dX12_raft_112 : decode cX12_raft 112 = .ok (.iadd, 1) := by decide +kernel
theorem dX12_raft_113 : decode cX12_raft 113 = .ok (.iaload, 1) := by decide +kernel
theorem dX12_raft_114 : decode cX12_raft 114 = .ok (.ireturn, 1) := by decide +kernel
theorem dX12_raft_115 : decode cX12_raft 115 = .ok (.aload_n 0, 1) := by decide +kernel
theorem dX12_raft_116 : decode cX12_raft 116 = .ok (.getfield 50, 3) := by decide +kernel
theorem dX12_raft_119 : decode cX12_raft 119 = .ok (.iconst 3, 1) := by decide +kernel
theorem dX12_raft_120 : decode cX12_raft 120 = .ok (.iload_n 1, 1) := by decide +kernel
theorem dX12_raft_121 : decode cX12_raft 121 = .ok (.imul, 1) := by decide +kernel
theorem dX12_raft_122 : decode cX12_raft 122 = .ok (.iconst 2, 1) := by decide +kernel
theorem dX12_raft_123 : decode cX12_raft 123 = .ok (.iadd, 1) := by decide +kernel
theorem dX12_raft_124 : decode cX12_raft 124 = .ok (.iaload, 1) := by decide +kernel
theorem dX12_raft_125 : decode cX12_raft 125 = .ok (.ireturn, 1) := by decide +kernel
def wb_X12_raft_23  (h : AH) (al0 : Nat) (xl1 : Int32) (xl2 : Int32) (xs0 : Int32) (as1 : Nat) (post : AH → Int32 → Prop) : Prop := (ob h as1 11) ∧ wp_X12_throwsIf h as1 xs0 (fun hv1 iv2 => (iv2 = 0 → ((ob hv1 al0 11) ∧ wp_X12_asItIs hv1 al0  (fun hv3  => (xl2 = 0 → ((ob hv3 al0 11) ∧ (∃ rv4, aP hv3 al0 24 = some rv4 ∧ ((ob hv3 rv4 13) ∧ ((vp_in ((3 : Int32) * xl1) (aL hv3 rv4)) ∧ (post hv3 (aI hv3 rv4 ((3 : Int32) * xl1).toNatClampNeg))))))) ∧ (xl2 = 1 → ((ob hv3 al0 11) ∧ (∃ rv5, aP hv3 al0 24 = some rv5 ∧ ((ob hv3 rv5 13) ∧ ((vp_in (((3 : Int32) * xl1) + (1 : Int32)) (aL hv3 rv5)) ∧ (post hv3 (aI hv3 rv5 (((3 : Int32) * xl1) + (1 : Int32)).toNatClampNeg))))))) ∧ (xl2 = 2 → ((ob hv3 al0 11) ∧ wp_X12_wide hv3 al0 xl1 (fun hv6 iv7 => post hv6 iv7))) ∧ (xl2 = 3 → ((ob hv3 al0 11) ∧ wp_X12_high hv3 al0 xl1 (fun hv8 iv9 => post hv8 iv9))) ∧ (xl2 = 4 → ((ob hv3 al0 11) ∧ (∃ rv10, aP hv3 al0 25 = some rv10 ∧ ((ob hv3 rv10 13) ∧ ((vp_in (((3 : Int32) * xl1) + (2 : Int32)) (aL hv3 rv10)) ∧ (post hv3 (aI hv3 rv10 (((3 : Int32) * xl1) + (2 : Int32)).toNatClampNeg))))))) ∧ ((xl2.toInt < 0 ∨ 4 < xl2.toInt) → ((ob hv3 al0 11) ∧ (∃ rv11, aP hv3 al0 24 = some rv11 ∧ ((ob hv3 rv11 13) ∧ ((vp_in (((3 : Int32) * xl1) + (2 : Int32)) (aL hv3 rv11)) ∧ (post hv3 (aI hv3 rv11 (((3 : Int32) * xl1) + (2 : Int32)).toNatClampNeg)))))))))) ∧ (¬ iv2 = 0 → (post hv1 0)))
set_option maxRecDepth 100000 in
theorem tb_X12_raft_23 {G : GG} {p : Program} {l : Launch} {e : Env} {R : Room} {s : State} {m : MethodId} {args : Array Value} {below : List Frame} {meth : Method} {c : Code} {n0 s0 : Nat} {post : AH → Int32 → Prop} (C : Cx G p R s m args meth c 3 cX12_raft RX12 n0 s0 2 43) (hr : meth.sig.returnType = (some .int))   {h : AH} {al0 : Nat} {xl1 : Int32} {xl2 : Int32} {xs0 : Int32} {as1 : Nat} (hw : wb_X12_raft_23  h al0 xl1 xl2 xs0 as1 post) : AW G p l e R s m args below meth c 3 (QM G (pI post) args s below n0 s0) 23 [(0, .ref (G.1 + al0)), (1, .int xl1), (2, .int xl2)] [.int xs0, .ref (G.1 + as1)] h := by
  unfold wb_X12_raft_23 at hw
  have hob := hw.1
  replace hw := hw.2
  refine r_callV C (As := [.int xs0]) (rest := []) (c_X12_throwsIf G h as1 xs0 _ hw) yl_X12_throwsIf (gm8 (List.mem_of_getElem? (i := 53) rfl) rfl) (gm8 (List.mem_of_getElem? (i := 55) rfl) rfl) (ci := 11) rfl (by decide) (gsel (List.mem_of_getElem? (i := 69) rfl)) hob (by decide) rfl (Nat.le_of_ble_eq_true rfl) dX12_raft_23 rfl (kI fun hv1 iv2 hw => ?_)
  refine r_if_eq C dX12_raft_26 31 (by decide) (fun hc => ?_) (fun hc => ?_)
  · replace hw := hw.1 hc
    refine r_aload_n C dX12_raft_31 0 rfl ?_
    have hob := hw.1
    replace hw := hw.2
    refine r_callV C (As := []) (rest := []) (c_X12_asItIs G hv1 al0  _ hw) yl_X12_asItIs (gm8 (List.mem_of_getElem? (i := 57) rfl) rfl) (gm8 (List.mem_of_getElem? (i := 59) rfl) rfl) (ci := 11) rfl (by decide) (gsel (List.mem_of_getElem? (i := 70) rfl)) hob (by decide) rfl (Nat.le_of_ble_eq_true rfl) dX12_raft_32 rfl (kV fun hv3  hw => ?_)
    refine r_iload_n C dX12_raft_35 2 rfl ?_
    by_cases hc0 : xl2 = 0
    · replace hw := hw.1 hc0
      refine r_tableIn C dX12_raft_36 (by rw [hc0]; decide) (by rw [hc0]; decide) (by rw [hc0]; rfl) 72 (by decide) ?_
      refine r_aload_n C dX12_raft_72 0 rfl ?_
      have hob := hw.1
      obtain ⟨rv4, hp, hw⟩ := hw.2
      refine r_getP C fl_RX12_50_11 hob hp (fun _ _ _ => rfl) dX12_raft_73 ?_
      refine r_iconst (v := 3) C dX12_raft_76 (by decide) ?_
      refine r_iload_n C dX12_raft_77 1 rfl ?_
      refine r_imul C dX12_raft_78 ?_
      refine r_iaload C hw.1 hw.2.1 dX12_raft_79 ?_
      replace hw := hw.2.2
      exact r_iret C hr dX12_raft_80 hw
    by_cases hc1 : xl2 = 1
    · replace hw := hw.2.1 hc1
      refine r_tableIn C dX12_raft_36 (by rw [hc1]; decide) (by rw [hc1]; decide) (by rw [hc1]; rfl) 81 (by decide) ?_
      refine r_aload_n C dX12_raft_81 0 rfl ?_
      have hob := hw.1
      obtain ⟨rv5, hp, hw⟩ := hw.2
      refine r_getP C fl_RX12_50_11 hob hp (fun _ _ _ => rfl) dX12_raft_82 ?_
      refine r_iconst (v := 3) C dX12_raft_85 (by decide) ?_
      refine r_iload_n C dX12_raft_86 1 rfl ?_
      refine r_imul C dX12_raft_87 ?_
      refine r_iconst (v := 1) C dX12_raft_88 (by decide) ?_
      refine r_iadd C dX12_raft_89 ?_
      refine r_iaload C hw.1 hw.2.1 dX12_raft_90 ?_
      replace hw := hw.2.2
      exact r_iret C hr dX12_raft_91 hw
    by_cases hc2 : xl2 = 2
    · replace hw := hw.2.2.1 hc2
      refine r_tableIn C dX12_raft_36 (by rw [hc2]; decide) (by rw [hc2]; decide) (by rw [hc2]; rfl) 92 (by decide) ?_
      refine r_aload_n C dX12_raft_92 0 rfl ?_
      refine r_iload_n C dX12_raft_93 1 rfl ?_
      have hob := hw.1
      replace hw := hw.2
      refine r_callV C (As := [.int xl1]) (rest := []) (c_X12_wide G hv3 al0 xl1 _ hw) yl_X12_wide (gm7 (List.mem_of_getElem? (i := 227) rfl) rfl) (gm7 (List.mem_of_getElem? (i := 229) rfl) rfl) (ci := 11) rfl (by decide) (gsel (List.mem_of_getElem? (i := 57) rfl)) hob (by decide) rfl (Nat.le_of_ble_eq_true rfl) dX12_raft_94 rfl (kI fun hv6 iv7 hw => ?_)
      exact r_iret C hr dX12_raft_97 hw
    by_cases hc3 : xl2 = 3
    · replace hw := hw.2.2.2.1 hc3
      refine r_tableIn C dX12_raft_36 (by rw [hc3]; decide) (by rw [hc3]; decide) (by rw [hc3]; rfl) 98 (by decide) ?_
      refine r_aload_n C dX12_raft_98 0 rfl ?_
      refine r_iload_n C dX12_raft_99 1 rfl ?_
      have hob := hw.1
      replace hw := hw.2
      refine r_callV C (As := [.int xl1]) (rest := []) (c_X12_high G hv3 al0 xl1 _ hw) yl_X12_high (gm7 (List.mem_of_getElem? (i := 234) rfl) rfl) (gm7 (List.mem_of_getElem? (i := 236) rfl) rfl) (ci := 11) rfl (by decide) (gsel (List.mem_of_getElem? (i := 58) rfl)) hob (by decide) rfl (Nat.le_of_ble_eq_true rfl) dX12_raft_100 rfl (kI fun hv8 iv9 hw => ?_)
      exact r_iret C hr dX12_raft_103 hw
    by_cases hc4 : xl2 = 4
    · replace hw := hw.2.2.2.2.1 hc4
      refine r_tableIn C dX12_raft_36 (by rw [hc4]; decide) (by rw [hc4]; decide) (by rw [hc4]; rfl) 104 (by decide) ?_
      refine r_aload_n C dX12_raft_104 0 rfl ?_
      have hob := hw.1
      obtain ⟨rv10, hp, hw⟩ := hw.2
      refine r_getP C fl_RX12_53_11 hob hp (fun _ _ _ => rfl) dX12_raft_105 ?_
      refine r_iconst (v := 3) C dX12_raft_108 (by decide) ?_
      refine r_iload_n C dX12_raft_109 1 rfl ?_
      refine r_imul C dX12_raft_110 ?_
      refine r_iconst (v := 2) C dX12_raft_111 (by decide) ?_
      refine r_iadd C dX12_raft_112 ?_
      refine r_iaload C hw.1 hw.2.1 dX12_raft_113 ?_
      replace hw := hw.2.2
      exact r_iret C hr dX12_raft_114 hw
    have hcd : xl2.toInt < 0 ∨ 4 < xl2.toInt := sw_out xl2 4 (by decide) (fun k hk => match k, hk with | 0, _ => hc0 | 1, _ => hc1 | 2, _ => hc2 | 3, _ => hc3 | 4, _ => hc4 | k + 5, hk => absurd hk (by omega))
    replace hw := hw.2.2.2.2.2 hcd
    refine r_tableOut C dX12_raft_36 hcd 115 (by decide) ?_
    refine r_aload_n C dX12_raft_115 0 rfl ?_
    have hob := hw.1
    obtain ⟨rv11, hp, hw⟩ := hw.2
    refine r_getP C fl_RX12_50_11 hob hp (fun _ _ _ => rfl) dX12_raft_116 ?_
    refine r_iconst (v := 3) C dX12_raft_119 (by decide) ?_
    refine r_iload_n C dX12_raft_120 1 rfl ?_
    refine r_imul C dX12_raft_121 ?_
    refine r_iconst (v := 2) C dX12_raft_122 (by decide) ?_
    refine r_iadd C dX12_raft_123 ?_
    refine r_iaload C hw.1 hw.2.1 dX12_raft_124 ?_
    replace hw := hw.2.2
    exact r_iret C hr dX12_raft_125 hw
  · replace hw := hw.2 hc
    refine r_iconst (v := 0) C dX12_raft_29 (by decide) ?_
    exact r_iret C hr dX12_raft_30 hw
def wb_X12_raft_18  (h : AH) (al0 : Nat) (xl1 : Int32) (xl2 : Int32) (as0 : Nat) (post : AH → Int32 → Prop) : Prop := wb_X12_raft_23  h al0 xl1 xl2 1 as0 post
set_option maxRecDepth 100000 in
theorem tb_X12_raft_18 {G : GG} {p : Program} {l : Launch} {e : Env} {R : Room} {s : State} {m : MethodId} {args : Array Value} {below : List Frame} {meth : Method} {c : Code} {n0 s0 : Nat} {post : AH → Int32 → Prop} (C : Cx G p R s m args meth c 3 cX12_raft RX12 n0 s0 2 43) (hr : meth.sig.returnType = (some .int))   {h : AH} {al0 : Nat} {xl1 : Int32} {xl2 : Int32} {as0 : Nat} (hw : wb_X12_raft_18  h al0 xl1 xl2 as0 post) : AW G p l e R s m args below meth c 3 (QM G (pI post) args s below n0 s0) 18 [(0, .ref (G.1 + al0)), (1, .int xl1), (2, .int xl2)] [.ref (G.1 + as0)] h := by
  unfold wb_X12_raft_18 at hw
  refine r_iconst (v := 1) C dX12_raft_18 (by decide) ?_
  refine r_goto C dX12_raft_19 23 (by decide) ?_
  refine r_sub [0, 1, 2] rfl ?_
  exact tb_X12_raft_23 C hr  hw
def wp_X12_raft (h : AH) (a0 : Nat) (x1 : Int32) (x2 : Int32) (post : AH → Int32 → Prop) : Prop := (ob h a0 11) ∧ wp_X12_isRaft h a0 x1 (fun hv1 iv2 => (iv2 = 0 → (wb_X12_raft_18  hv1 a0 x1 x2 a0 post)) ∧ (¬ iv2 = 0 → (wp_X12_isIn hv1 x2 0 5 (fun hv3 iv4 => (¬ iv4 = 0 → (wb_X12_raft_23  hv3 a0 x1 x2 0 a0 post)) ∧ (iv4 = 0 → (wb_X12_raft_18  hv3 a0 x1 x2 a0 post))))))
set_option maxRecDepth 100000 in
theorem c_X12_raft (G : GG) (h : AH) (a0 : Nat) (x1 : Int32) (x2 : Int32) (post : AH → Int32 → Prop) (hw : wp_X12_raft h a0 x1 x2 post) : MC G yX12_raft cX12_raft 3 (some .int) 2 43 h [.ref (G.1 + a0), .int x1, .int x2] (pI post) := by
  refine MC.of (lv := [(0, .ref (G.1 + a0)), (1, .int x1), (2, .int x2)]) (by decide) (Nat.le_of_ble_eq_true rfl) rfl fun p l e R s m args below meth c C hr hnm => ?_
  unfold wp_X12_raft at hw
  refine r_aload_n C dX12_raft_0 0 rfl ?_
  refine r_aload_n C dX12_raft_1 0 rfl ?_
  refine r_iload_n C dX12_raft_2 1 rfl ?_
  have hob := hw.1
  replace hw := hw.2
  refine r_callV C (As := [.int x1]) (rest := [.ref (G.1 + a0)]) (c_X12_isRaft G h a0 x1 _ hw) yl_X12_isRaft (gm8 (List.mem_of_getElem? (i := 49) rfl) rfl) (gm8 (List.mem_of_getElem? (i := 51) rfl) rfl) (ci := 11) rfl (by decide) (gsel (List.mem_of_getElem? (i := 68) rfl)) hob (by decide) rfl (Nat.le_of_ble_eq_true rfl) dX12_raft_3 rfl (kI fun hv1 iv2 hw => ?_)
  refine r_if_eq C dX12_raft_6 18 (by decide) (fun hc => ?_) (fun hc => ?_)
  · replace hw := hw.1 hc
    refine r_sub [0, 1, 2] rfl ?_
    exact tb_X12_raft_18 C hr  hw
  · replace hw := hw.2 hc
    refine r_iload_n C dX12_raft_9 2 rfl ?_
    refine r_iconst (v := 0) C dX12_raft_10 (by decide) ?_
    refine r_iconst (v := 5) C dX12_raft_11 (by decide) ?_
    refine r_callS C (As := [.int x2, .int 0, .int 5]) (rest := [.ref (G.1 + a0)]) (c_X12_isIn G hv1 x2 0 5 _ hw) yl_X12_isIn (gm7 (List.mem_of_getElem? (i := 189) rfl) rfl) (gm7 (List.mem_of_getElem? (i := 190) rfl) rfl) (by decide) rfl (Nat.le_of_ble_eq_true rfl) dX12_raft_12 rfl (kI fun hv3 iv4 hw => ?_)
    refine r_if_ne C dX12_raft_15 22 (by decide) (fun hc => ?_) (fun hc => ?_)
    · replace hw := hw.1 hc
      refine r_iconst (v := 0) C dX12_raft_22 (by decide) ?_
      refine r_sub [0, 1, 2] rfl ?_
      exact tb_X12_raft_23 C hr  hw
    · replace hw := hw.2 hc
      refine r_sub [0, 1, 2] rfl ?_
      exact tb_X12_raft_18 C hr  hw
theorem dX12_at_0 : decode cX12_at 0 = .ok (.aload_n 0, 1) := by decide +kernel
theorem dX12_at_1 : decode cX12_at 1 = .ok (.iconst 0, 1) := by decide +kernel
theorem dX12_at_2 : decode cX12_at 2 = .ok (.putfield 1, 3) := by decide +kernel
theorem dX12_at_5 : decode cX12_at 5 = .ok (.aload_n 0, 1) := by decide +kernel
theorem dX12_at_6 : decode cX12_at 6 = .ok (.invokevirtual 317, 3) := by decide +kernel
theorem dX12_at_9 : decode cX12_at 9 = .ok (.iconst 0, 1) := by decide +kernel
theorem dX12_at_10 : decode cX12_at 10 = .ok (.istore_n 3, 1) := by decide +kernel
theorem dX12_at_11 : decode cX12_at 11 = .ok (.iload_n 3, 1) := by decide +kernel
theorem dX12_at_12 : decode cX12_at 12 = .ok (.aload_n 0, 1) := by decide +kernel
theorem dX12_at_13 : decode cX12_at 13 = .ok (.getfield 33, 3) := by decide +kernel
theorem dX12_at_16 : decode cX12_at 16 = .ok (.iconst 2, 1) := by decide +kernel
theorem dX12_at_17 : decode cX12_at 17 = .ok (.iaload, 1) := by decide +kernel
theorem dX12_at_18 : decode cX12_at 18 = .ok (.if_icmp .ge 30, 3) := by decide +kernel
theorem dX12_at_21 : decode cX12_at 21 = .ok (.aload_n 0, 1) := by decide +kernel
theorem dX12_at_22 : decode cX12_at 22 = .ok (.iload_n 1, 1) := by decide +kernel
theorem dX12_at_23 : decode cX12_at 23 = .ok (.iload_n 2, 1) := by decide +kernel
theorem dX12_at_24 : decode cX12_at 24 = .ok (.invokevirtual 287, 3) := by decide +kernel
theorem dX12_at_27 : decode cX12_at 27 = .ok (.ifCond .eq 15, 3) := by decide +kernel
theorem dX12_at_30 : decode cX12_at 30 = .ok (.aload_n 0, 1) := by decide +kernel
theorem dX12_at_31 : decode cX12_at 31 = .ok (.iload_n 3, 1) := by decide +kernel
theorem dX12_at_32 : decode cX12_at 32 = .ok (.iload_n 1, 1) := by decide +kernel
theorem dX12_at_33 : decode cX12_at 33 = .ok (.iload_n 2, 1) := by decide +kernel
theorem dX12_at_34 : decode cX12_at 34 = .ok (.invokevirtual 320, 3) := by decide +kernel
theorem dX12_at_37 : decode cX12_at 37 = .ok (.ifCond .eq 5, 3) := by decide +kernel
theorem dX12_at_40 : decode cX12_at 40 = .ok (.iload_n 3, 1) := by decide +kernel
theorem dX12_at_41 : decode cX12_at 41 = .ok (.ireturn, 1) := by decide +kernel
theorem dX12_at_42 : decode cX12_at 42 = .ok (.iinc 3 1, 3) := by decide +kernel
theorem dX12_at_45 : decode cX12_at 45 = .ok (.goto (-34), 3) := by decide +kernel
theorem dX12_at_48 : decode cX12_at 48 = .ok (.iconst (-1), 1) := by decide +kernel
theorem dX12_at_49 : decode cX12_at 49 = .ok (.ireturn, 1) := by decide +kernel
def wb_X12_at_42 (K11 : AH → Nat → Int32 → Int32 → Int32 → Prop) (h : AH) (al0 : Nat) (xl1 : Int32) (xl2 : Int32) (xl3 : Int32)  (post : AH → Int32 → Prop) : Prop := ∀ iv1 : Int32, iv1 = xl3 + 1 → (K11 h al0 xl1 xl2 iv1)
set_option maxRecDepth 100000 in
theorem tb_X12_at_42 {G : GG} {p : Program} {l : Launch} {e : Env} {R : Room} {s : State} {m : MethodId} {args : Array Value} {below : List Frame} {meth : Method} {c : Code} {n0 s0 : Nat} {post : AH → Int32 → Prop} (C : Cx G p R s m args meth c 4 cX12_at RX12 n0 s0 2 44) (hr : meth.sig.returnType = (some .int)) {K11 : AH → Nat → Int32 → Int32 → Int32 → Prop} (hK11 : ∀ (h : AH) (al0 : Nat) (xl1 : Int32) (xl2 : Int32) (xl3 : Int32), K11 h al0 xl1 xl2 xl3 → AW G p l e R s m args below meth c 4 (QM G (pI post) args s below n0 s0) 11 [(0, .ref (G.1 + al0)), (1, .int xl1), (2, .int xl2), (3, .int xl3)] [] h) {h : AH} {al0 : Nat} {xl1 : Int32} {xl2 : Int32} {xl3 : Int32}  (hw : wb_X12_at_42 K11 h al0 xl1 xl2 xl3 post) : AW G p l e R s m args below meth c 4 (QM G (pI post) args s below n0 s0) 42 [(0, .ref (G.1 + al0)), (1, .int xl1), (2, .int xl2), (3, .int xl3)] [] h := by
  unfold wb_X12_at_42 at hw
  obtain ⟨iv1, eiv1⟩ : ∃ q : Int32, q = xl3 + 1 := ⟨_, rfl⟩
  replace hw := hw iv1 eiv1
  refine r_iinc C dX12_at_42 3 rfl (by rw [eiv1]; rfl) [(3, .int iv1), (0, .ref (G.1 + al0)), (1, .int xl1), (2, .int xl2)] (by decide) rfl ?_
  refine r_goto C dX12_at_45 11 (by decide) ?_
  refine r_sub [1, 2, 3, 0] rfl ?_
  exact hK11 _ _ _ _ _ hw
def wb_X12_at_11 (K11 : AH → Nat → Int32 → Int32 → Int32 → Prop) (h : AH) (al0 : Nat) (xl1 : Int32) (xl2 : Int32) (xl3 : Int32)  (post : AH → Int32 → Prop) : Prop := (ob h al0 11) ∧ (∃ rv1, aP h al0 6 = some rv1 ∧ ((ob h rv1 13) ∧ ((vp_in 2 (aL h rv1)) ∧ (((aI h rv1 (2 : Int32).toNatClampNeg) ≤ xl3 → (post h (-1))) ∧ (¬ (aI h rv1 (2 : Int32).toNatClampNeg) ≤ xl3 → ((ob h al0 11) ∧ wp_X12_isCell h al0 xl1 xl2 (fun hv2 iv3 => (iv3 = 0 → (wb_X12_at_42 K11 hv2 al0 xl1 xl2 xl3 post)) ∧ (¬ iv3 = 0 → ((ob hv2 al0 11) ∧ wp_X12_isOn hv2 al0 xl3 xl1 xl2 (fun hv4 iv5 => (iv5 = 0 → (wb_X12_at_42 K11 hv4 al0 xl1 xl2 xl3 post)) ∧ (¬ iv5 = 0 → (post hv4 xl3))))))))))))
set_option maxRecDepth 100000 in
theorem tb_X12_at_11 {G : GG} {p : Program} {l : Launch} {e : Env} {R : Room} {s : State} {m : MethodId} {args : Array Value} {below : List Frame} {meth : Method} {c : Code} {n0 s0 : Nat} {post : AH → Int32 → Prop} (C : Cx G p R s m args meth c 4 cX12_at RX12 n0 s0 2 44) (hr : meth.sig.returnType = (some .int)) {K11 : AH → Nat → Int32 → Int32 → Int32 → Prop} (hK11 : ∀ (h : AH) (al0 : Nat) (xl1 : Int32) (xl2 : Int32) (xl3 : Int32), K11 h al0 xl1 xl2 xl3 → AW G p l e R s m args below meth c 4 (QM G (pI post) args s below n0 s0) 11 [(0, .ref (G.1 + al0)), (1, .int xl1), (2, .int xl2), (3, .int xl3)] [] h) {h : AH} {al0 : Nat} {xl1 : Int32} {xl2 : Int32} {xl3 : Int32}  (hw : wb_X12_at_11 K11 h al0 xl1 xl2 xl3 post) : AW G p l e R s m args below meth c 4 (QM G (pI post) args s below n0 s0) 11 [(0, .ref (G.1 + al0)), (1, .int xl1), (2, .int xl2), (3, .int xl3)] [] h := by
  unfold wb_X12_at_11 at hw
  refine r_iload_n C dX12_at_11 3 rfl ?_
  refine r_aload_n C dX12_at_12 0 rfl ?_
  have hob := hw.1
  obtain ⟨rv1, hp, hw⟩ := hw.2
  refine r_getP C fl_RX12_33_11 hob hp (fun _ _ _ => rfl) dX12_at_13 ?_
  refine r_iconst (v := 2) C dX12_at_16 (by decide) ?_
  refine r_iaload C hw.1 hw.2.1 dX12_at_17 ?_
  replace hw := hw.2.2
  refine r_icmp_ge C dX12_at_18 48 (by decide) (fun hc => ?_) (fun hc => ?_)
  · replace hw := hw.1 hc
    refine r_iconst (v := (-1)) C dX12_at_48 (by decide) ?_
    exact r_iret C hr dX12_at_49 hw
  · replace hw := hw.2 hc
    refine r_aload_n C dX12_at_21 0 rfl ?_
    refine r_iload_n C dX12_at_22 1 rfl ?_
    refine r_iload_n C dX12_at_23 2 rfl ?_
    have hob := hw.1
    replace hw := hw.2
    refine r_callV C (As := [.int xl1, .int xl2]) (rest := []) (c_X12_isCell G h al0 xl1 xl2 _ hw) yl_X12_isCell (gm8 (List.mem_of_getElem? (i := 34) rfl) rfl) (gm8 (List.mem_of_getElem? (i := 36) rfl) rfl) (ci := 11) rfl (by decide) (gsel (List.mem_of_getElem? (i := 66) rfl)) hob (by decide) rfl (Nat.le_of_ble_eq_true rfl) dX12_at_24 rfl (kI fun hv2 iv3 hw => ?_)
    refine r_if_eq C dX12_at_27 42 (by decide) (fun hc => ?_) (fun hc => ?_)
    · replace hw := hw.1 hc
      refine r_sub [0, 1, 2, 3] rfl ?_
      exact tb_X12_at_42 C hr hK11 hw
    · replace hw := hw.2 hc
      refine r_aload_n C dX12_at_30 0 rfl ?_
      refine r_iload_n C dX12_at_31 3 rfl ?_
      refine r_iload_n C dX12_at_32 1 rfl ?_
      refine r_iload_n C dX12_at_33 2 rfl ?_
      have hob := hw.1
      replace hw := hw.2
      refine r_callV C (As := [.int xl3, .int xl1, .int xl2]) (rest := []) (c_X12_isOn G hv2 al0 xl3 xl1 xl2 _ hw) yl_X12_isOn (gm8 (List.mem_of_getElem? (i := 65) rfl) rfl) (gm8 (List.mem_of_getElem? (i := 67) rfl) rfl) (ci := 11) rfl (by decide) (gsel (List.mem_of_getElem? (i := 71) rfl)) hob (by decide) rfl (Nat.le_of_ble_eq_true rfl) dX12_at_34 rfl (kI fun hv4 iv5 hw => ?_)
      refine r_if_eq C dX12_at_37 42 (by decide) (fun hc => ?_) (fun hc => ?_)
      · replace hw := hw.1 hc
        refine r_sub [0, 1, 2, 3] rfl ?_
        exact tb_X12_at_42 C hr hK11 hw
      · replace hw := hw.2 hc
        refine r_iload_n C dX12_at_40 3 rfl ?_
        exact r_iret C hr dX12_at_41 hw
def wl_X12_at_11  (post : AH → Int32 → Prop) : Nat → AH → Nat → Int32 → Int32 → Int32 → Prop
  | 0 => fun _ _ _ _ _ => False
  | n + 1 => fun h al0 xl1 xl2 xl3 => wb_X12_at_11  (wl_X12_at_11  post n) h al0 xl1 xl2 xl3 post
theorem tl_X12_at_11 {G : GG} {p : Program} {l : Launch} {e : Env} {R : Room} {s : State} {m : MethodId} {args : Array Value} {below : List Frame} {meth : Method} {c : Code} {n0 s0 : Nat} {post : AH → Int32 → Prop} (C : Cx G p R s m args meth c 4 cX12_at RX12 n0 s0 2 44) (hr : meth.sig.returnType = (some .int))   : ∀ (n : Nat) (h : AH) (al0 : Nat) (xl1 : Int32) (xl2 : Int32) (xl3 : Int32), wl_X12_at_11  post n h al0 xl1 xl2 xl3 → AW G p l e R s m args below meth c 4 (QM G (pI post) args s below n0 s0) 11 [(0, .ref (G.1 + al0)), (1, .int xl1), (2, .int xl2), (3, .int xl3)] [] h := by
  intro n
  induction n with
  | zero => intro h al0 xl1 xl2 xl3 hw; exact hw.elim
  | succ n ih => intro h al0 xl1 xl2 xl3 hw; exact tb_X12_at_11 C hr  ih hw
def wp_X12_at (h : AH) (a0 : Nat) (x1 : Int32) (x2 : Int32) (post : AH → Int32 → Prop) : Prop := (ob h a0 11) ∧ (∀ hv1 : AH, hv1 = hI h a0 0 0 → ((ob hv1 a0 11) ∧ wp_X12_asItIs hv1 a0  (fun hv2  => ∃ n, wl_X12_at_11  post n hv2 a0 x1 x2 0)))
set_option maxRecDepth 100000 in
theorem c_X12_at (G : GG) (h : AH) (a0 : Nat) (x1 : Int32) (x2 : Int32) (post : AH → Int32 → Prop) (hw : wp_X12_at h a0 x1 x2 post) : MC G yX12_at cX12_at 4 (some .int) 2 44 h [.ref (G.1 + a0), .int x1, .int x2] (pI post) := by
  refine MC.of (lv := [(0, .ref (G.1 + a0)), (1, .int x1), (2, .int x2)]) (by decide) (Nat.le_of_ble_eq_true rfl) rfl fun p l e R s m args below meth c C hr hnm => ?_
  unfold wp_X12_at at hw
  refine r_aload_n C dX12_at_0 0 rfl ?_
  refine r_iconst (v := 0) C dX12_at_1 (by decide) ?_
  refine r_putI C fp_RX12_1_11 hw.1 rfl dX12_at_2 ?_
  replace hw := hw.2
  refine r_toph fun hv1 ehv1 => ?_
  replace hw := hw hv1 ehv1
  refine r_aload_n C dX12_at_5 0 rfl ?_
  have hob := hw.1
  replace hw := hw.2
  refine r_callV C (As := []) (rest := []) (c_X12_asItIs G hv1 a0  _ hw) yl_X12_asItIs (gm8 (List.mem_of_getElem? (i := 57) rfl) rfl) (gm8 (List.mem_of_getElem? (i := 59) rfl) rfl) (ci := 11) rfl (by decide) (gsel (List.mem_of_getElem? (i := 70) rfl)) hob (by decide) rfl (Nat.le_of_ble_eq_true rfl) dX12_at_6 rfl (kV fun hv2  hw => ?_)
  refine r_iconst (v := 0) C dX12_at_9 (by decide) ?_
  refine r_istore_n C dX12_at_10 [(3, .int 0), (0, .ref (G.1 + a0)), (1, .int x1), (2, .int x2)] (by decide) rfl ?_
  refine r_sub [1, 2, 3, 0] rfl ?_
  obtain ⟨n, hw⟩ := hw
  exact tl_X12_at_11 C hr  n _ _ _ _ _ hw
theorem dX12_isTown_0 : decode cX12_isTown 0 = .ok (.iconst 0, 1) := by decide +kernel
theorem dX12_isTown_1 : decode cX12_isTown 1 = .ok (.istore_n 1, 1) := by decide +kernel
theorem dX12_isTown_2 : decode cX12_isTown 2 = .ok (.iload_n 1, 1) := by decide +kernel
theorem dX12_isTown_3 : decode cX12_isTown 3 = .ok (.aload_n 0, 1) := by decide +kernel
theorem dX12_isTown_4 : decode cX12_isTown 4 = .ok (.getfield 33, 3) := by decide +kernel
theorem dX12_isTown_7 : decode cX12_isTown 7 = .ok (.iconst 2, 1) := by decide +kernel
theorem dX12_isTown_8 : decode cX12_isTown 8 = .ok (.iaload, 1) := by decide +kernel
theorem dX12_isTown_9 : decode cX12_isTown 9 = .ok (.if_icmp .ge 27, 3) := by decide +kernel
theorem dX12_isTown_12 : decode cX12_isTown 12 = .ok (.aload_n 0, 1) := by decide +kernel
theorem dX12_isTown_13 : decode cX12_isTown 13 = .ok (.iload_n 1, 1) := by decide +kernel
theorem dX12_isTown_14 : decode cX12_isTown 14 = .ok (.invokevirtual 326, 3) := by decide +kernel
theorem dX12_isTown_17 : decode cX12_isTown 17 = .ok (.ifCond .eq 11, 3) := by decide +kernel
theorem dX12_isTown_20 : decode cX12_isTown 20 = .ok (.aload_n 0, 1) := by decide +kernel
theorem dX12_isTown_21 : decode cX12_isTown 21 = .ok (.iload_n 1, 1) := by decide +kernel
theorem dX12_isTown_22 : decode cX12_isTown 22 = .ok (.invokevirtual 329, 3) := by decide +kernel
theorem dX12_isTown_25 : decode cX12_isTown 25 = .ok (.ifCond .eq 5, 3) := by decide +kernel
theorem dX12_isTown_28 : decode cX12_isTown 28 = .ok (.iconst 0, 1) := by decide +kernel
theorem dX12_isTown_29 : decode cX12_isTown 29 = .ok (.ireturn, 1) := by decide +kernel
theorem dX12_isTown_30 : decode cX12_isTown 30 = .ok (.iinc 1 1, 3) := by decide +kernel
theorem dX12_isTown_33 : decode cX12_isTown 33 = .ok (.goto (-31), 3) := by decide +kernel
theorem dX12_isTown_36 : decode cX12_isTown 36 = .ok (.iconst 1, 1) := by decide +kernel
theorem dX12_isTown_37 : decode cX12_isTown 37 = .ok (.ireturn, 1) := by decide +kernel
def wb_X12_isTown_2 (K2 : AH → Nat → Int32 → Prop) (h : AH) (al0 : Nat) (xl1 : Int32)  (post : AH → Int32 → Prop) : Prop := (ob h al0 11) ∧ (∃ rv1, aP h al0 6 = some rv1 ∧ ((ob h rv1 13) ∧ ((vp_in 2 (aL h rv1)) ∧ (((aI h rv1 (2 : Int32).toNatClampNeg) ≤ xl1 → (((1 : Int32) = 0 ∨ (1 : Int32) = 1) ∧ post h 1)) ∧ (¬ (aI h rv1 (2 : Int32).toNatClampNeg) ≤ xl1 → ((ob h al0 11) ∧ wp_X12_isInside h al0 xl1 (fun hv2 iv3 => (iv3 = 0 → (((0 : Int32) = 0 ∨ (0 : Int32) = 1) ∧ post hv2 0)) ∧ (¬ iv3 = 0 → ((ob hv2 al0 11) ∧ wp_X12_isOnAnother hv2 al0 xl1 (fun hv4 iv5 => (iv5 = 0 → (∀ iv6 : Int32, iv6 = xl1 + 1 → (K2 hv4 al0 iv6))) ∧ (¬ iv5 = 0 → (((0 : Int32) = 0 ∨ (0 : Int32) = 1) ∧ post hv4 0))))))))))))
set_option maxRecDepth 100000 in
theorem tb_X12_isTown_2 {G : GG} {p : Program} {l : Launch} {e : Env} {R : Room} {s : State} {m : MethodId} {args : Array Value} {below : List Frame} {meth : Method} {c : Code} {n0 s0 : Nat} {post : AH → Int32 → Prop} (C : Cx G p R s m args meth c 2 cX12_isTown RX12 n0 s0 3 65) (hr : meth.sig.returnType = (some .boolean)) {K2 : AH → Nat → Int32 → Prop} (hK2 : ∀ (h : AH) (al0 : Nat) (xl1 : Int32), K2 h al0 xl1 → AW G p l e R s m args below meth c 2 (QM G (pI post) args s below n0 s0) 2 [(0, .ref (G.1 + al0)), (1, .int xl1)] [] h) {h : AH} {al0 : Nat} {xl1 : Int32}  (hw : wb_X12_isTown_2 K2 h al0 xl1 post) : AW G p l e R s m args below meth c 2 (QM G (pI post) args s below n0 s0) 2 [(0, .ref (G.1 + al0)), (1, .int xl1)] [] h := by
  unfold wb_X12_isTown_2 at hw
  refine r_iload_n C dX12_isTown_2 1 rfl ?_
  refine r_aload_n C dX12_isTown_3 0 rfl ?_
  have hob := hw.1
  obtain ⟨rv1, hp, hw⟩ := hw.2
  refine r_getP C fl_RX12_33_11 hob hp (fun _ _ _ => rfl) dX12_isTown_4 ?_
  refine r_iconst (v := 2) C dX12_isTown_7 (by decide) ?_
  refine r_iaload C hw.1 hw.2.1 dX12_isTown_8 ?_
  replace hw := hw.2.2
  refine r_icmp_ge C dX12_isTown_9 36 (by decide) (fun hc => ?_) (fun hc => ?_)
  · replace hw := hw.1 hc
    refine r_iconst (v := 1) C dX12_isTown_36 (by decide) ?_
    exact r_zret C hr dX12_isTown_37 hw.1 hw.2
  · replace hw := hw.2 hc
    refine r_aload_n C dX12_isTown_12 0 rfl ?_
    refine r_iload_n C dX12_isTown_13 1 rfl ?_
    have hob := hw.1
    replace hw := hw.2
    refine r_callV C (As := [.int xl1]) (rest := []) (c_X12_isInside G h al0 xl1 _ hw) yl_X12_isInside (gm8 (List.mem_of_getElem? (i := 81) rfl) rfl) (gm8 (List.mem_of_getElem? (i := 83) rfl) rfl) (ci := 11) rfl (by decide) (gsel (List.mem_of_getElem? (i := 74) rfl)) hob (by decide) rfl (Nat.le_of_ble_eq_true rfl) dX12_isTown_14 rfl (kI fun hv2 iv3 hw => ?_)
    refine r_if_eq C dX12_isTown_17 28 (by decide) (fun hc => ?_) (fun hc => ?_)
    · replace hw := hw.1 hc
      refine r_iconst (v := 0) C dX12_isTown_28 (by decide) ?_
      exact r_zret C hr dX12_isTown_29 hw.1 hw.2
    · replace hw := hw.2 hc
      refine r_aload_n C dX12_isTown_20 0 rfl ?_
      refine r_iload_n C dX12_isTown_21 1 rfl ?_
      have hob := hw.1
      replace hw := hw.2
      refine r_callV C (As := [.int xl1]) (rest := []) (c_X12_isOnAnother G hv2 al0 xl1 _ hw) yl_X12_isOnAnother (gm8 (List.mem_of_getElem? (i := 85) rfl) rfl) (gm8 (List.mem_of_getElem? (i := 87) rfl) rfl) (ci := 11) rfl (by decide) (gsel (List.mem_of_getElem? (i := 75) rfl)) hob (by decide) rfl (Nat.le_of_ble_eq_true rfl) dX12_isTown_22 rfl (kI fun hv4 iv5 hw => ?_)
      refine r_if_eq C dX12_isTown_25 30 (by decide) (fun hc => ?_) (fun hc => ?_)
      · replace hw := hw.1 hc
        obtain ⟨iv6, eiv6⟩ : ∃ q : Int32, q = xl1 + 1 := ⟨_, rfl⟩
        replace hw := hw iv6 eiv6
        refine r_iinc C dX12_isTown_30 1 rfl (by rw [eiv6]; rfl) [(1, .int iv6), (0, .ref (G.1 + al0))] (by decide) rfl ?_
        refine r_goto C dX12_isTown_33 2 (by decide) ?_
        refine r_sub [1, 0] rfl ?_
        exact hK2 _ _ _ hw
      · replace hw := hw.2 hc
        refine r_iconst (v := 0) C dX12_isTown_28 (by decide) ?_
        exact r_zret C hr dX12_isTown_29 hw.1 hw.2
def wl_X12_isTown_2  (post : AH → Int32 → Prop) : Nat → AH → Nat → Int32 → Prop
  | 0 => fun _ _ _ => False
  | n + 1 => fun h al0 xl1 => wb_X12_isTown_2  (wl_X12_isTown_2  post n) h al0 xl1 post
theorem tl_X12_isTown_2 {G : GG} {p : Program} {l : Launch} {e : Env} {R : Room} {s : State} {m : MethodId} {args : Array Value} {below : List Frame} {meth : Method} {c : Code} {n0 s0 : Nat} {post : AH → Int32 → Prop} (C : Cx G p R s m args meth c 2 cX12_isTown RX12 n0 s0 3 65) (hr : meth.sig.returnType = (some .boolean))   : ∀ (n : Nat) (h : AH) (al0 : Nat) (xl1 : Int32), wl_X12_isTown_2  post n h al0 xl1 → AW G p l e R s m args below meth c 2 (QM G (pI post) args s below n0 s0) 2 [(0, .ref (G.1 + al0)), (1, .int xl1)] [] h := by
  intro n
  induction n with
  | zero => intro h al0 xl1 hw; exact hw.elim
  | succ n ih => intro h al0 xl1 hw; exact tb_X12_isTown_2 C hr  ih hw
def wp_X12_isTown (h : AH) (a0 : Nat) (post : AH → Int32 → Prop) : Prop := ∃ n, wl_X12_isTown_2  post n h a0 0
set_option maxRecDepth 100000 in
theorem c_X12_isTown (G : GG) (h : AH) (a0 : Nat) (post : AH → Int32 → Prop) (hw : wp_X12_isTown h a0 post) : MC G yX12_isTown cX12_isTown 2 (some .boolean) 3 65 h [.ref (G.1 + a0)] (pI post) := by
  refine MC.of (lv := [(0, .ref (G.1 + a0))]) (by decide) (Nat.le_of_ble_eq_true rfl) rfl fun p l e R s m args below meth c C hr hnm => ?_
  unfold wp_X12_isTown at hw
  refine r_iconst (v := 0) C dX12_isTown_0 (by decide) ?_
  refine r_istore_n C dX12_isTown_1 [(1, .int 0), (0, .ref (G.1 + a0))] (by decide) rfl ?_
  refine r_sub [1, 0] rfl ?_
  obtain ⟨n, hw⟩ := hw
  exact tl_X12_isTown_2 C hr  n _ _ _ hw
theorem dX12_takesTown_0 : decode cX12_takesTown 0 = .ok (.aload_n 0, 1) := by decide +kernel
theorem dX12_takesTown_1 : decode cX12_takesTown 1 = .ok (.sipush 940, 3) := by decide +kernel
theorem dX12_takesTown_4 : decode cX12_takesTown 4 = .ok (.invokevirtual 275, 3) := by decide +kernel
theorem dX12_takesTown_7 : decode cX12_takesTown 7 = .ok (.aload_n 0, 1) := by decide +kernel
theorem dX12_takesTown_8 : decode cX12_takesTown 8 = .ok (.invokevirtual 317, 3) := by decide +kernel
theorem dX12_takesTown_11 : decode cX12_takesTown 11 = .ok (.aload_n 0, 1) := by decide +kernel
theorem dX12_takesTown_12 : decode cX12_takesTown 12 = .ok (.getfield 18, 3) := by decide +kernel
theorem dX12_takesTown_15 : decode cX12_takesTown 15 = .ok (.iconst 3, 1) := by decide +kernel
theorem dX12_takesTown_16 : decode cX12_takesTown 16 = .ok (.aload_n 0, 1) := by decide +kernel
theorem dX12_takesTown_17 : decode cX12_takesTown 17 = .ok (.getfield 33, 3) := by decide +kernel
theorem dX12_takesTown_20 : decode cX12_takesTown 20 = .ok (.iconst 2, 1) := by decide +kernel
theorem dX12_takesTown_21 : decode cX12_takesTown 21 = .ok (.iaload, 1) := by decide +kernel
theorem dX12_takesTown_22 : decode cX12_takesTown 22 = .ok (.imul, 1) := by decide +kernel
theorem dX12_takesTown_23 : decode cX12_takesTown 23 = .ok (.if_icmp .eq 5, 3) := by decide +kernel
theorem dX12_takesTown_26 : decode cX12_takesTown 26 = .ok (.iconst 0, 1) := by decide +kernel
theorem dX12_takesTown_27 : decode cX12_takesTown 27 = .ok (.ireturn, 1) := by decide +kernel
theorem dX12_takesTown_28 : decode cX12_takesTown 28 = .ok (.iconst 0, 1) := by decide +kernel
theorem dX12_takesTown_29 : decode cX12_takesTown 29 = .ok (.istore_n 1, 1) := by decide +kernel
theorem dX12_takesTown_30 : decode cX12_takesTown 30 = .ok (.iload_n 1, 1) := by decide +kernel
theorem dX12_takesTown_31 : decode cX12_takesTown 31 = .ok (.aload_n 0, 1) := by decide +kernel
theorem dX12_takesTown_32 : decode cX12_takesTown 32 = .ok (.getfield 18, 3) := by decide +kernel
theorem dX12_takesTown_35 : decode cX12_takesTown 35 = .ok (.if_icmp .ge 77, 3) := by decide +kernel
theorem dX12_takesTown_38 : decode cX12_takesTown 38 = .ok (.aload_n 0, 1) := by decide +kernel
theorem dX12_takesTown_39 : decode cX12_takesTown 39 = .ok (.getfield 50, 3) := by decide +kernel
theorem dX12_takesTown_42 : decode cX12_takesTown 42 = .ok (.iload_n 1, 1) := by decide +kernel
theorem dX12_takesTown_43 : decode cX12_takesTown 43 = .ok (.aload_n 0, 1) := by decide +kernel
theorem dX12_takesTown_44 : decode cX12_takesTown 44 = .ok (.iload_n 1, 1) := by decide +kernel
theorem dX12_takesTown_45 : decode cX12_takesTown 45 = .ok (.invokevirtual 249, 3) := by decide +kernel
theorem dX12_takesTown_48 : decode cX12_takesTown 48 = .ok (.iastore, 1) := by decide +kernel
theorem dX12_takesTown_49 : decode cX12_takesTown 49 = .ok (.iload_n 1, 1) := by decide +kernel
theorem dX12_takesTown_50 : decode cX12_takesTown 50 = .ok (.iconst 3, 1) := by decide +kernel
theorem dX12_takesTown_51 : decode cX12_takesTown 51 = .ok (.irem, 1) := by decide +kernel
theorem dX12_takesTown_52 : decode cX12_takesTown 52 = .ok (.iconst 2, 1) := by decide +kernel
theorem dX12_takesTown_53 : decode cX12_takesTown 53 = .ok (.if_icmp .ge 6, 3) := by decide +kernel
theorem dX12_takesTown_56 : decode cX12_takesTown 56 = .ok (.goto 50, 3) := by decide +kernel
theorem dX12_takesTown_59 : decode cX12_takesTown 59 = .ok (.aload_n 0, 1) := by decide +kernel
theorem dX12_takesTown_60 : decode cX12_takesTown 60 = .ok (.getfield 50, 3) := by decide +kernel
theorem dX12_takesTown_63 : decode cX12_takesTown 63 = .ok (.iload_n 1, 1) := by decide +kernel
theorem dX12_takesTown_64 : decode cX12_takesTown 64 = .ok (.iaload, 1) := by decide +kernel
theorem dX12_takesTown_65 : decode cX12_takesTown 65 = .ok (.iconst 1, 1) := by decide +kernel
theorem dX12_takesTown_66 : decode cX12_takesTown 66 = .ok (.if_icmp .le 5, 3) := by decide +kernel
theorem dX12_takesTown_69 : decode cX12_takesTown 69 = .ok (.iconst 0, 1) := by decide +kernel
theorem dX12_takesTown_70 : decode cX12_takesTown 70 = .ok (.ireturn, 1) := by decide +kernel
theorem dX12_takesTown_71 : decode cX12_takesTown 71 = .ok (.aload_n 0, 1) := by decide +kernel
theorem dX12_takesTown_72 : decode cX12_takesTown 72 = .ok (.getfield 50, 3) := by decide +kernel
theorem dX12_takesTown_75 : decode cX12_takesTown 75 = .ok (.iload_n 1, 1) := by decide +kernel
theorem dX12_takesTown_76 : decode cX12_takesTown 76 = .ok (.aload_n 0, 1) := by decide +kernel
theorem dX12_takesTown_77 : decode cX12_takesTown 77 = .ok (.getfield 53, 3) := by decide +kernel
theorem dX12_takesTown_80 : decode cX12_takesTown 80 = .ok (.iload_n 1, 1) := by decide +kernel
theorem dX12_takesTown_81 : decode cX12_takesTown 81 = .ok (.iconst 2, 1) := by decide +kernel
theorem dX12_takesTown_82 : decode cX12_takesTown 82 = .ok (.isub, 1) := by decide +kernel
theorem dX12_takesTown_83 : decode cX12_takesTown 83 = .ok (.iaload, 1) := by decide +kernel
theorem dX12_takesTown_84 : decode cX12_takesTown 84 = .ok (.aload_n 0, 1) := by decide +kernel
theorem dX12_takesTown_85 : decode cX12_takesTown 85 = .ok (.getfield 53, 3) := by decide +kernel
theorem dX12_takesTown_88 : decode cX12_takesTown 88 = .ok (.iload_n 1, 1) := by decide +kernel
theorem dX12_takesTown_89 : decode cX12_takesTown 89 = .ok (.iconst 1, 1) := by decide +kernel
theorem dX12_takesTown_90 : decode cX12_takesTown 90 = .ok (.isub, 1) := by decide +kernel
theorem dX12_takesTown_91 : decode cX12_takesTown 91 = .ok (.iaload, 1) := by decide +kernel
theorem dX12_takesTown_92 : decode cX12_takesTown 92 = .ok (.if_icmp .ne 7, 3) := by decide +kernel
theorem dX12_takesTown_95 : decode cX12_takesTown 95 = .ok (.iconst 0, 1) := by decide +kernel
theorem dX12_takesTown_96 : decode cX12_takesTown 96 = .ok (.goto 9, 3) := by decide +kernel
theorem dX12_takesTown_99 : decode cX12_takesTown 99 = .ok (.aload_n 0, 1) := by decide +kernel
theorem dX12_takesTown_100 : decode cX12_takesTown 100 = .ok (.getfield 50, 3) := by decide +kernel
theorem dX12_takesTown_103 : decode cX12_takesTown 103 = .ok (.iload_n 1, 1) := by decide +kernel
theorem dX12_takesTown_104 : decode cX12_takesTown 104 = .ok (.iaload, 1) := by decide +kernel
theorem dX12_takesTown_105 : decode cX12_takesTown 105 = .ok (.iastore, 1) := by decide +kernel
theorem dX12_takesTown_106 : decode cX12_takesTown 106 = .ok (.iinc 1 1, 3) := by decide +kernel
theorem dX12_takesTown_109 : decode cX12_takesTown 109 = .ok (.goto (-79), 3) := by decide +kernel
theorem dX12_takesTown_112 : decode cX12_takesTown 112 = .ok (.aload_n 0, 1) := by decide +kernel
theorem dX12_takesTown_113 : decode cX12_takesTown 113 = .ok (.invokevirtual 323, 3) := by decide +kernel
theorem dX12_takesTown_116 : decode cX12_takesTown 116 = .ok (.ireturn, 1) := by decide +kernel
def wb_X12_takesTown_106 (K30 : AH → Nat → Int32 → Prop) (h : AH) (al0 : Nat) (xl1 : Int32)  (post : AH → Int32 → Prop) : Prop := ∀ iv1 : Int32, iv1 = xl1 + 1 → (K30 h al0 iv1)
set_option maxRecDepth 100000 in
theorem tb_X12_takesTown_106 {G : GG} {p : Program} {l : Launch} {e : Env} {R : Room} {s : State} {m : MethodId} {args : Array Value} {below : List Frame} {meth : Method} {c : Code} {n0 s0 : Nat} {post : AH → Int32 → Prop} (C : Cx G p R s m args meth c 2 cX12_takesTown RX12 n0 s0 4 86) (hr : meth.sig.returnType = (some .boolean)) {K30 : AH → Nat → Int32 → Prop} (hK30 : ∀ (h : AH) (al0 : Nat) (xl1 : Int32), K30 h al0 xl1 → AW G p l e R s m args below meth c 2 (QM G (pI post) args s below n0 s0) 30 [(0, .ref (G.1 + al0)), (1, .int xl1)] [] h) {h : AH} {al0 : Nat} {xl1 : Int32}  (hw : wb_X12_takesTown_106 K30 h al0 xl1 post) : AW G p l e R s m args below meth c 2 (QM G (pI post) args s below n0 s0) 106 [(0, .ref (G.1 + al0)), (1, .int xl1)] [] h := by
  unfold wb_X12_takesTown_106 at hw
  obtain ⟨iv1, eiv1⟩ : ∃ q : Int32, q = xl1 + 1 := ⟨_, rfl⟩
  replace hw := hw iv1 eiv1
  refine r_iinc C dX12_takesTown_106 1 rfl (by rw [eiv1]; rfl) [(1, .int iv1), (0, .ref (G.1 + al0))] (by decide) rfl ?_
  refine r_goto C dX12_takesTown_109 30 (by decide) ?_
  refine r_sub [1, 0] rfl ?_
  exact hK30 _ _ _ hw
def wb_X12_takesTown_105 (K30 : AH → Nat → Int32 → Prop) (h : AH) (al0 : Nat) (xl1 : Int32) (xs0 : Int32) (xs1 : Int32) (as2 : Nat) (post : AH → Int32 → Prop) : Prop := (ob h as2 13) ∧ ((vp_in xs1 (aL h as2)) ∧ (∀ hv1 : AH, hv1 = hI h as2 xs1.toNatClampNeg xs0 → (wb_X12_takesTown_106 K30 hv1 al0 xl1 post)))
set_option maxRecDepth 100000 in
theorem tb_X12_takesTown_105 {G : GG} {p : Program} {l : Launch} {e : Env} {R : Room} {s : State} {m : MethodId} {args : Array Value} {below : List Frame} {meth : Method} {c : Code} {n0 s0 : Nat} {post : AH → Int32 → Prop} (C : Cx G p R s m args meth c 2 cX12_takesTown RX12 n0 s0 4 86) (hr : meth.sig.returnType = (some .boolean)) {K30 : AH → Nat → Int32 → Prop} (hK30 : ∀ (h : AH) (al0 : Nat) (xl1 : Int32), K30 h al0 xl1 → AW G p l e R s m args below meth c 2 (QM G (pI post) args s below n0 s0) 30 [(0, .ref (G.1 + al0)), (1, .int xl1)] [] h) {h : AH} {al0 : Nat} {xl1 : Int32} {xs0 : Int32} {xs1 : Int32} {as2 : Nat} (hw : wb_X12_takesTown_105 K30 h al0 xl1 xs0 xs1 as2 post) : AW G p l e R s m args below meth c 2 (QM G (pI post) args s below n0 s0) 105 [(0, .ref (G.1 + al0)), (1, .int xl1)] [.int xs0, .int xs1, .ref (G.1 + as2)] h := by
  unfold wb_X12_takesTown_105 at hw
  refine r_iastore C hw.1 hw.2.1 dX12_takesTown_105 ?_
  replace hw := hw.2.2
  refine r_toph fun hv1 ehv1 => ?_
  replace hw := hw hv1 ehv1
  refine r_sub [0, 1] rfl ?_
  exact tb_X12_takesTown_106 C hr hK30 hw
def wb_X12_takesTown_30 (K30 : AH → Nat → Int32 → Prop) (h : AH) (al0 : Nat) (xl1 : Int32)  (post : AH → Int32 → Prop) : Prop := (ob h al0 11) ∧ (((aI h al0 3) ≤ xl1 → ((ob h al0 11) ∧ wp_X12_isTown h al0  (fun hv1 iv2 => (iv2 = 0 ∨ iv2 = 1) ∧ post hv1 iv2))) ∧ (¬ (aI h al0 3) ≤ xl1 → ((ob h al0 11) ∧ (∃ rv3, aP h al0 24 = some rv3 ∧ ((ob h al0 11) ∧ wp_X12_octet h al0 xl1 (fun hv4 iv5 => (ob hv4 rv3 13) ∧ ((vp_in xl1 (aL hv4 rv3)) ∧ (∀ hv6 : AH, hv6 = hI hv4 rv3 xl1.toNatClampNeg iv5 → ((2 ≤ (xl1 - xl1 / 3 * 3) → ((ob hv6 al0 11) ∧ (∃ rv7, aP hv6 al0 24 = some rv7 ∧ ((ob hv6 rv7 13) ∧ ((vp_in xl1 (aL hv6 rv7)) ∧ (((aI hv6 rv7 xl1.toNatClampNeg) ≤ 1 → ((ob hv6 al0 11) ∧ (∃ rv8, aP hv6 al0 24 = some rv8 ∧ ((ob hv6 al0 11) ∧ (∃ rv9, aP hv6 al0 25 = some rv9 ∧ ((ob hv6 rv9 13) ∧ ((vp_in (xl1 - (2 : Int32)) (aL hv6 rv9)) ∧ ((ob hv6 al0 11) ∧ (∃ rv10, aP hv6 al0 25 = some rv10 ∧ ((ob hv6 rv10 13) ∧ ((vp_in (xl1 - (1 : Int32)) (aL hv6 rv10)) ∧ ((¬ (aI hv6 rv9 (xl1 - (2 : Int32)).toNatClampNeg) = (aI hv6 rv10 (xl1 - (1 : Int32)).toNatClampNeg) → ((ob hv6 al0 11) ∧ (∃ rv11, aP hv6 al0 24 = some rv11 ∧ ((ob hv6 rv11 13) ∧ ((vp_in xl1 (aL hv6 rv11)) ∧ (wb_X12_takesTown_105 K30 hv6 al0 xl1 (aI hv6 rv11 xl1.toNatClampNeg) xl1 rv8 post)))))) ∧ ((aI hv6 rv9 (xl1 - (2 : Int32)).toNatClampNeg) = (aI hv6 rv10 (xl1 - (1 : Int32)).toNatClampNeg) → (wb_X12_takesTown_105 K30 hv6 al0 xl1 0 xl1 rv8 post)))))))))))))) ∧ (¬ (aI hv6 rv7 xl1.toNatClampNeg) ≤ 1 → (((0 : Int32) = 0 ∨ (0 : Int32) = 1) ∧ post hv6 0)))))))) ∧ (¬ 2 ≤ (xl1 - xl1 / 3 * 3) → (wb_X12_takesTown_106 K30 hv6 al0 xl1 post)))))))))))
set_option maxRecDepth 100000 in
theorem tb_X12_takesTown_30 {G : GG} {p : Program} {l : Launch} {e : Env} {R : Room} {s : State} {m : MethodId} {args : Array Value} {below : List Frame} {meth : Method} {c : Code} {n0 s0 : Nat} {post : AH → Int32 → Prop} (C : Cx G p R s m args meth c 2 cX12_takesTown RX12 n0 s0 4 86) (hr : meth.sig.returnType = (some .boolean)) {K30 : AH → Nat → Int32 → Prop} (hK30 : ∀ (h : AH) (al0 : Nat) (xl1 : Int32), K30 h al0 xl1 → AW G p l e R s m args below meth c 2 (QM G (pI post) args s below n0 s0) 30 [(0, .ref (G.1 + al0)), (1, .int xl1)] [] h) {h : AH} {al0 : Nat} {xl1 : Int32}  (hw : wb_X12_takesTown_30 K30 h al0 xl1 post) : AW G p l e R s m args below meth c 2 (QM G (pI post) args s below n0 s0) 30 [(0, .ref (G.1 + al0)), (1, .int xl1)] [] h := by
  unfold wb_X12_takesTown_30 at hw
  refine r_iload_n C dX12_takesTown_30 1 rfl ?_
  refine r_aload_n C dX12_takesTown_31 0 rfl ?_
  refine r_getI C fl_RX12_18_11 hw.1 (fun _ _ _ => rfl) dX12_takesTown_32 ?_
  replace hw := hw.2
  refine r_icmp_ge C dX12_takesTown_35 112 (by decide) (fun hc => ?_) (fun hc => ?_)
  · replace hw := hw.1 hc
    refine r_aload_n C dX12_takesTown_112 0 rfl ?_
    have hob := hw.1
    replace hw := hw.2
    refine r_callV C (As := []) (rest := []) (c_X12_isTown G h al0  _ hw) yl_X12_isTown (gm8 (List.mem_of_getElem? (i := 77) rfl) rfl) (gm8 (List.mem_of_getElem? (i := 79) rfl) rfl) (ci := 11) rfl (by decide) (gsel (List.mem_of_getElem? (i := 73) rfl)) hob (by decide) rfl (Nat.le_of_ble_eq_true rfl) dX12_takesTown_113 rfl (kI fun hv1 iv2 hw => ?_)
    exact r_zret C hr dX12_takesTown_116 hw.1 hw.2
  · replace hw := hw.2 hc
    refine r_aload_n C dX12_takesTown_38 0 rfl ?_
    have hob := hw.1
    obtain ⟨rv3, hp, hw⟩ := hw.2
    refine r_getP C fl_RX12_50_11 hob hp (fun _ _ _ => rfl) dX12_takesTown_39 ?_
    refine r_iload_n C dX12_takesTown_42 1 rfl ?_
    refine r_aload_n C dX12_takesTown_43 0 rfl ?_
    refine r_iload_n C dX12_takesTown_44 1 rfl ?_
    have hob := hw.1
    replace hw := hw.2
    refine r_callV C (As := [.int xl1]) (rest := [.int xl1, .ref (G.1 + rv3)]) (c_X12_octet G h al0 xl1 _ hw) yl_X12_octet (gm7 (List.mem_of_getElem? (i := 181) rfl) rfl) (gm7 (List.mem_of_getElem? (i := 183) rfl) rfl) (ci := 11) rfl (by decide) (gsel (List.mem_of_getElem? (i := 47) rfl)) hob (by decide) rfl (Nat.le_of_ble_eq_true rfl) dX12_takesTown_45 rfl (kI fun hv4 iv5 hw => ?_)
    refine r_iastore C hw.1 hw.2.1 dX12_takesTown_48 ?_
    replace hw := hw.2.2
    refine r_toph fun hv6 ehv6 => ?_
    replace hw := hw hv6 ehv6
    refine r_iload_n C dX12_takesTown_49 1 rfl ?_
    refine r_iconst (v := 3) C dX12_takesTown_50 (by decide) ?_
    refine r_irem C dX12_takesTown_51 (by decide) ?_
    refine r_iconst (v := 2) C dX12_takesTown_52 (by decide) ?_
    refine r_icmp_ge C dX12_takesTown_53 59 (by decide) (fun hc => ?_) (fun hc => ?_)
    · replace hw := hw.1 hc
      refine r_aload_n C dX12_takesTown_59 0 rfl ?_
      have hob := hw.1
      obtain ⟨rv7, hp, hw⟩ := hw.2
      refine r_getP C fl_RX12_50_11 hob hp (fun _ _ _ => rfl) dX12_takesTown_60 ?_
      refine r_iload_n C dX12_takesTown_63 1 rfl ?_
      refine r_iaload C hw.1 hw.2.1 dX12_takesTown_64 ?_
      replace hw := hw.2.2
      refine r_iconst (v := 1) C dX12_takesTown_65 (by decide) ?_
      refine r_icmp_le C dX12_takesTown_66 71 (by decide) (fun hc => ?_) (fun hc => ?_)
      · replace hw := hw.1 hc
        refine r_aload_n C dX12_takesTown_71 0 rfl ?_
        have hob := hw.1
        obtain ⟨rv8, hp, hw⟩ := hw.2
        refine r_getP C fl_RX12_50_11 hob hp (fun _ _ _ => rfl) dX12_takesTown_72 ?_
        refine r_iload_n C dX12_takesTown_75 1 rfl ?_
        refine r_aload_n C dX12_takesTown_76 0 rfl ?_
        have hob := hw.1
        obtain ⟨rv9, hp, hw⟩ := hw.2
        refine r_getP C fl_RX12_53_11 hob hp (fun _ _ _ => rfl) dX12_takesTown_77 ?_
        refine r_iload_n C dX12_takesTown_80 1 rfl ?_
        refine r_iconst (v := 2) C dX12_takesTown_81 (by decide) ?_
        refine r_isub C dX12_takesTown_82 ?_
        refine r_iaload C hw.1 hw.2.1 dX12_takesTown_83 ?_
        replace hw := hw.2.2
        refine r_aload_n C dX12_takesTown_84 0 rfl ?_
        have hob := hw.1
        obtain ⟨rv10, hp, hw⟩ := hw.2
        refine r_getP C fl_RX12_53_11 hob hp (fun _ _ _ => rfl) dX12_takesTown_85 ?_
        refine r_iload_n C dX12_takesTown_88 1 rfl ?_
        refine r_iconst (v := 1) C dX12_takesTown_89 (by decide) ?_
        refine r_isub C dX12_takesTown_90 ?_
        refine r_iaload C hw.1 hw.2.1 dX12_takesTown_91 ?_
        replace hw := hw.2.2
        refine r_icmp_ne C dX12_takesTown_92 99 (by decide) (fun hc => ?_) (fun hc => ?_)
        · replace hw := hw.1 hc
          refine r_aload_n C dX12_takesTown_99 0 rfl ?_
          have hob := hw.1
          obtain ⟨rv11, hp, hw⟩ := hw.2
          refine r_getP C fl_RX12_50_11 hob hp (fun _ _ _ => rfl) dX12_takesTown_100 ?_
          refine r_iload_n C dX12_takesTown_103 1 rfl ?_
          refine r_iaload C hw.1 hw.2.1 dX12_takesTown_104 ?_
          replace hw := hw.2.2
          refine r_sub [0, 1] rfl ?_
          exact tb_X12_takesTown_105 C hr hK30 hw
        · replace hw := hw.2 hc
          refine r_iconst (v := 0) C dX12_takesTown_95 (by decide) ?_
          refine r_goto C dX12_takesTown_96 105 (by decide) ?_
          refine r_sub [0, 1] rfl ?_
          exact tb_X12_takesTown_105 C hr hK30 hw
      · replace hw := hw.2 hc
        refine r_iconst (v := 0) C dX12_takesTown_69 (by decide) ?_
        exact r_zret C hr dX12_takesTown_70 hw.1 hw.2
    · replace hw := hw.2 hc
      refine r_goto C dX12_takesTown_56 106 (by decide) ?_
      refine r_sub [0, 1] rfl ?_
      exact tb_X12_takesTown_106 C hr hK30 hw
def wl_X12_takesTown_30  (post : AH → Int32 → Prop) : Nat → AH → Nat → Int32 → Prop
  | 0 => fun _ _ _ => False
  | n + 1 => fun h al0 xl1 => wb_X12_takesTown_30  (wl_X12_takesTown_30  post n) h al0 xl1 post
theorem tl_X12_takesTown_30 {G : GG} {p : Program} {l : Launch} {e : Env} {R : Room} {s : State} {m : MethodId} {args : Array Value} {below : List Frame} {meth : Method} {c : Code} {n0 s0 : Nat} {post : AH → Int32 → Prop} (C : Cx G p R s m args meth c 2 cX12_takesTown RX12 n0 s0 4 86) (hr : meth.sig.returnType = (some .boolean))   : ∀ (n : Nat) (h : AH) (al0 : Nat) (xl1 : Int32), wl_X12_takesTown_30  post n h al0 xl1 → AW G p l e R s m args below meth c 2 (QM G (pI post) args s below n0 s0) 30 [(0, .ref (G.1 + al0)), (1, .int xl1)] [] h := by
  intro n
  induction n with
  | zero => intro h al0 xl1 hw; exact hw.elim
  | succ n ih => intro h al0 xl1 hw; exact tb_X12_takesTown_30 C hr  ih hw
def wp_X12_takesTown (h : AH) (a0 : Nat) (post : AH → Int32 → Prop) : Prop := (ob h a0 11) ∧ wp_X12_taken h a0 940 (fun hv1  => (ob hv1 a0 11) ∧ wp_X12_asItIs hv1 a0  (fun hv2  => (ob hv2 a0 11) ∧ ((ob hv2 a0 11) ∧ (∃ rv3, aP hv2 a0 6 = some rv3 ∧ ((ob hv2 rv3 13) ∧ ((vp_in 2 (aL hv2 rv3)) ∧ (((aI hv2 a0 3) = ((3 : Int32) * (aI hv2 rv3 (2 : Int32).toNatClampNeg)) → (∃ n, wl_X12_takesTown_30  post n hv2 a0 0)) ∧ (¬ (aI hv2 a0 3) = ((3 : Int32) * (aI hv2 rv3 (2 : Int32).toNatClampNeg)) → (((0 : Int32) = 0 ∨ (0 : Int32) = 1) ∧ post hv2 0)))))))))
set_option maxRecDepth 100000 in
theorem c_X12_takesTown (G : GG) (h : AH) (a0 : Nat) (post : AH → Int32 → Prop) (hw : wp_X12_takesTown h a0 post) : MC G yX12_takesTown cX12_takesTown 2 (some .boolean) 4 86 h [.ref (G.1 + a0)] (pI post) := by
  refine MC.of (lv := [(0, .ref (G.1 + a0))]) (by decide) (Nat.le_of_ble_eq_true rfl) rfl fun p l e R s m args below meth c C hr hnm => ?_
  unfold wp_X12_takesTown at hw
  refine r_aload_n C dX12_takesTown_0 0 rfl ?_
  refine r_sipush (v := 940) C dX12_takesTown_1 (by decide) ?_
  have hob := hw.1
  replace hw := hw.2
  refine r_callV C (As := [.int 940]) (rest := []) (c_X12_taken G h a0 940 _ hw) yl_X12_taken (gm7 (List.mem_of_getElem? (i := 147) rfl) rfl) (gm7 (List.mem_of_getElem? (i := 149) rfl) rfl) (ci := 11) rfl (by decide) (gsel (List.mem_of_getElem? (i := 40) rfl)) hob (by decide) rfl (Nat.le_of_ble_eq_true rfl) dX12_takesTown_4 rfl (kV fun hv1  hw => ?_)
  refine r_aload_n C dX12_takesTown_7 0 rfl ?_
  have hob := hw.1
  replace hw := hw.2
  refine r_callV C (As := []) (rest := []) (c_X12_asItIs G hv1 a0  _ hw) yl_X12_asItIs (gm8 (List.mem_of_getElem? (i := 57) rfl) rfl) (gm8 (List.mem_of_getElem? (i := 59) rfl) rfl) (ci := 11) rfl (by decide) (gsel (List.mem_of_getElem? (i := 70) rfl)) hob (by decide) rfl (Nat.le_of_ble_eq_true rfl) dX12_takesTown_8 rfl (kV fun hv2  hw => ?_)
  refine r_aload_n C dX12_takesTown_11 0 rfl ?_
  refine r_getI C fl_RX12_18_11 hw.1 (fun _ _ _ => rfl) dX12_takesTown_12 ?_
  replace hw := hw.2
  refine r_iconst (v := 3) C dX12_takesTown_15 (by decide) ?_
  refine r_aload_n C dX12_takesTown_16 0 rfl ?_
  have hob := hw.1
  obtain ⟨rv3, hp, hw⟩ := hw.2
  refine r_getP C fl_RX12_33_11 hob hp (fun _ _ _ => rfl) dX12_takesTown_17 ?_
  refine r_iconst (v := 2) C dX12_takesTown_20 (by decide) ?_
  refine r_iaload C hw.1 hw.2.1 dX12_takesTown_21 ?_
  replace hw := hw.2.2
  refine r_imul C dX12_takesTown_22 ?_
  refine r_icmp_eq C dX12_takesTown_23 28 (by decide) (fun hc => ?_) (fun hc => ?_)
  · replace hw := hw.1 hc
    refine r_iconst (v := 0) C dX12_takesTown_28 (by decide) ?_
    refine r_istore_n C dX12_takesTown_29 [(1, .int 0), (0, .ref (G.1 + a0))] (by decide) rfl ?_
    refine r_sub [1, 0] rfl ?_
    obtain ⟨n, hw⟩ := hw
    exact tl_X12_takesTown_30 C hr  n _ _ _ hw
  · replace hw := hw.2 hc
    refine r_iconst (v := 0) C dX12_takesTown_26 (by decide) ?_
    exact r_zret C hr dX12_takesTown_27 hw.1 hw.2
theorem dX12_keepTown_0 : decode cX12_keepTown 0 = .ok (.iconst 0, 1) := by decide +kernel
theorem dX12_keepTown_1 : decode cX12_keepTown 1 = .ok (.istore_n 1, 1) := by decide +kernel
theorem dX12_keepTown_2 : decode cX12_keepTown 2 = .ok (.iload_n 1, 1) := by decide +kernel
theorem dX12_keepTown_3 : decode cX12_keepTown 3 = .ok (.bipush 24, 2) := by decide +kernel
theorem dX12_keepTown_5 : decode cX12_keepTown 5 = .ok (.if_icmp .ge 25, 3) := by decide +kernel
theorem dX12_keepTown_8 : decode cX12_keepTown 8 = .ok (.aload_n 0, 1) := by decide +kernel
theorem dX12_keepTown_9 : decode cX12_keepTown 9 = .ok (.getfield 33, 3) := by decide +kernel
theorem dX12_keepTown_12 : decode cX12_keepTown 12 = .ok (.sipush 225, 3) := by decide +kernel
theorem dX12_keepTown_15 : decode cX12_keepTown 15 = .ok (.iload_n 1, 1) := by decide +kernel
theorem dX12_keepTown_16 : decode cX12_keepTown 16 = .ok (.iadd, 1) := by decide +kernel
theorem dX12_keepTown_17 : decode cX12_keepTown 17 = .ok (.aload_n 0, 1) := by decide +kernel
theorem dX12_keepTown_18 : decode cX12_keepTown 18 = .ok (.getfield 50, 3) := by decide +kernel
theorem dX12_keepTown_21 : decode cX12_keepTown 21 = .ok (.iload_n 1, 1) := by decide +kernel
theorem dX12_keepTown_22 : decode cX12_keepTown 22 = .ok (.iaload, 1) := by decide +kernel
theorem dX12_keepTown_23 : decode cX12_keepTown 23 = .ok (.iastore, 1) := by decide +kernel
theorem dX12_keepTown_24 : decode cX12_keepTown 24 = .ok (.iinc 1 1, 3) := by decide +kernel
theorem dX12_keepTown_27 : decode cX12_keepTown 27 = .ok (.goto (-25), 3) := by decide +kernel
theorem dX12_keepTown_30 : decode cX12_keepTown 30 = .ok (.return_, 1) := by decide +kernel
def wb_X12_keepTown_2 (K2 : AH → Nat → Int32 → Prop) (h : AH) (al0 : Nat) (xl1 : Int32)  (post : AH → Prop) : Prop := (24 ≤ xl1 → (post h)) ∧ (¬ 24 ≤ xl1 → ((ob h al0 11) ∧ (∃ rv1, aP h al0 6 = some rv1 ∧ ((ob h al0 11) ∧ (∃ rv2, aP h al0 24 = some rv2 ∧ ((ob h rv2 13) ∧ ((vp_in xl1 (aL h rv2)) ∧ ((ob h rv1 13) ∧ ((vp_in ((225 : Int32) + xl1) (aL h rv1)) ∧ (∀ hv3 : AH, hv3 = hI h rv1 ((225 : Int32) + xl1).toNatClampNeg (aI h rv2 xl1.toNatClampNeg) → (∀ iv4 : Int32, iv4 = xl1 + 1 → (K2 hv3 al0 iv4))))))))))))
set_option maxRecDepth 100000 in
theorem tb_X12_keepTown_2 {G : GG} {p : Program} {l : Launch} {e : Env} {R : Room} {s : State} {m : MethodId} {args : Array Value} {below : List Frame} {meth : Method} {c : Code} {n0 s0 : Nat} {post : AH → Prop} (C : Cx G p R s m args meth c 2 cX12_keepTown RX12 n0 s0 0 0) (hr : meth.sig.returnType = none) {K2 : AH → Nat → Int32 → Prop} (hK2 : ∀ (h : AH) (al0 : Nat) (xl1 : Int32), K2 h al0 xl1 → AW G p l e R s m args below meth c 2 (QM G (pV post) args s below n0 s0) 2 [(0, .ref (G.1 + al0)), (1, .int xl1)] [] h) {h : AH} {al0 : Nat} {xl1 : Int32}  (hw : wb_X12_keepTown_2 K2 h al0 xl1 post) : AW G p l e R s m args below meth c 2 (QM G (pV post) args s below n0 s0) 2 [(0, .ref (G.1 + al0)), (1, .int xl1)] [] h := by
  unfold wb_X12_keepTown_2 at hw
  refine r_iload_n C dX12_keepTown_2 1 rfl ?_
  refine r_bipush (v := 24) C dX12_keepTown_3 (by decide) ?_
  refine r_icmp_ge C dX12_keepTown_5 30 (by decide) (fun hc => ?_) (fun hc => ?_)
  · replace hw := hw.1 hc
    exact r_vret C hr dX12_keepTown_30 hw
  · replace hw := hw.2 hc
    refine r_aload_n C dX12_keepTown_8 0 rfl ?_
    have hob := hw.1
    obtain ⟨rv1, hp, hw⟩ := hw.2
    refine r_getP C fl_RX12_33_11 hob hp (fun _ _ _ => rfl) dX12_keepTown_9 ?_
    refine r_sipush (v := 225) C dX12_keepTown_12 (by decide) ?_
    refine r_iload_n C dX12_keepTown_15 1 rfl ?_
    refine r_iadd C dX12_keepTown_16 ?_
    refine r_aload_n C dX12_keepTown_17 0 rfl ?_
    have hob := hw.1
    obtain ⟨rv2, hp, hw⟩ := hw.2
    refine r_getP C fl_RX12_50_11 hob hp (fun _ _ _ => rfl) dX12_keepTown_18 ?_
    refine r_iload_n C dX12_keepTown_21 1 rfl ?_
    refine r_iaload C hw.1 hw.2.1 dX12_keepTown_22 ?_
    replace hw := hw.2.2
    refine r_iastore C hw.1 hw.2.1 dX12_keepTown_23 ?_
    replace hw := hw.2.2
    refine r_toph fun hv3 ehv3 => ?_
    replace hw := hw hv3 ehv3
    obtain ⟨iv4, eiv4⟩ : ∃ q : Int32, q = xl1 + 1 := ⟨_, rfl⟩
    replace hw := hw iv4 eiv4
    refine r_iinc C dX12_keepTown_24 1 rfl (by rw [eiv4]; rfl) [(1, .int iv4), (0, .ref (G.1 + al0))] (by decide) rfl ?_
    refine r_goto C dX12_keepTown_27 2 (by decide) ?_
    refine r_sub [1, 0] rfl ?_
    exact hK2 _ _ _ hw
def wl_X12_keepTown_2  (post : AH → Prop) : Nat → AH → Nat → Int32 → Prop
  | 0 => fun _ _ _ => False
  | n + 1 => fun h al0 xl1 => wb_X12_keepTown_2  (wl_X12_keepTown_2  post n) h al0 xl1 post
theorem tl_X12_keepTown_2 {G : GG} {p : Program} {l : Launch} {e : Env} {R : Room} {s : State} {m : MethodId} {args : Array Value} {below : List Frame} {meth : Method} {c : Code} {n0 s0 : Nat} {post : AH → Prop} (C : Cx G p R s m args meth c 2 cX12_keepTown RX12 n0 s0 0 0) (hr : meth.sig.returnType = none)   : ∀ (n : Nat) (h : AH) (al0 : Nat) (xl1 : Int32), wl_X12_keepTown_2  post n h al0 xl1 → AW G p l e R s m args below meth c 2 (QM G (pV post) args s below n0 s0) 2 [(0, .ref (G.1 + al0)), (1, .int xl1)] [] h := by
  intro n
  induction n with
  | zero => intro h al0 xl1 hw; exact hw.elim
  | succ n ih => intro h al0 xl1 hw; exact tb_X12_keepTown_2 C hr  ih hw
def wp_X12_keepTown (h : AH) (a0 : Nat) (post : AH → Prop) : Prop := ∃ n, wl_X12_keepTown_2  post n h a0 0
set_option maxRecDepth 100000 in
theorem c_X12_keepTown (G : GG) (h : AH) (a0 : Nat) (post : AH → Prop) (hw : wp_X12_keepTown h a0 post) : MC G yX12_keepTown cX12_keepTown 2 none 0 0 h [.ref (G.1 + a0)] (pV post) := by
  refine MC.of (lv := [(0, .ref (G.1 + a0))]) (by decide) (Nat.le_of_ble_eq_true rfl) rfl fun p l e R s m args below meth c C hr hnm => ?_
  unfold wp_X12_keepTown at hw
  refine r_iconst (v := 0) C dX12_keepTown_0 (by decide) ?_
  refine r_istore_n C dX12_keepTown_1 [(1, .int 0), (0, .ref (G.1 + a0))] (by decide) rfl ?_
  refine r_sub [1, 0] rfl ?_
  obtain ⟨n, hw⟩ := hw
  exact tl_X12_keepTown_2 C hr  n _ _ _ hw
theorem dX12_lay_0 : decode cX12_lay 0 = .ok (.aload_n 0, 1) := by decide +kernel
theorem dX12_lay_1 : decode cX12_lay 1 = .ok (.iconst 0, 1) := by decide +kernel
theorem dX12_lay_2 : decode cX12_lay 2 = .ok (.putfield 1, 3) := by decide +kernel
theorem dX12_lay_5 : decode cX12_lay 5 = .ok (.aload_n 0, 1) := by decide +kernel
theorem dX12_lay_6 : decode cX12_lay 6 = .ok (.invokevirtual 332, 3) := by decide +kernel
theorem dX12_lay_9 : decode cX12_lay 9 = .ok (.ifCond .ne 5, 3) := by decide +kernel
theorem dX12_lay_12 : decode cX12_lay 12 = .ok (.iconst 0, 1) := by decide +kernel
theorem dX12_lay_13 : decode cX12_lay 13 = .ok (.ireturn, 1) := by decide +kernel
theorem dX12_lay_14 : decode cX12_lay 14 = .ok (.aload_n 0, 1) := by decide +kernel
theorem dX12_lay_15 : decode cX12_lay 15 = .ok (.invokevirtual 335, 3) := by decide +kernel
theorem dX12_lay_18 : decode cX12_lay 18 = .ok (.iconst 1, 1) := by decide +kernel
theorem dX12_lay_19 : decode cX12_lay 19 = .ok (.ireturn, 1) := by decide +kernel
def wp_X12_lay (h : AH) (a0 : Nat) (post : AH → Int32 → Prop) : Prop := (ob h a0 11) ∧ (∀ hv1 : AH, hv1 = hI h a0 0 0 → ((ob hv1 a0 11) ∧ wp_X12_takesTown hv1 a0  (fun hv2 iv3 => (¬ iv3 = 0 → ((ob hv2 a0 11) ∧ wp_X12_keepTown hv2 a0  (fun hv4  => ((1 : Int32) = 0 ∨ (1 : Int32) = 1) ∧ post hv4 1))) ∧ (iv3 = 0 → (((0 : Int32) = 0 ∨ (0 : Int32) = 1) ∧ post hv2 0)))))
set_option maxRecDepth 100000 in
theorem c_X12_lay (G : GG) (h : AH) (a0 : Nat) (post : AH → Int32 → Prop) (hw : wp_X12_lay h a0 post) : MC G yX12_lay cX12_lay 1 (some .boolean) 5 107 h [.ref (G.1 + a0)] (pI post) := by
  refine MC.of (lv := [(0, .ref (G.1 + a0))]) (by decide) (Nat.le_of_ble_eq_true rfl) rfl fun p l e R s m args below meth c C hr hnm => ?_
  unfold wp_X12_lay at hw
  refine r_aload_n C dX12_lay_0 0 rfl ?_
  refine r_iconst (v := 0) C dX12_lay_1 (by decide) ?_
  refine r_putI C fp_RX12_1_11 hw.1 rfl dX12_lay_2 ?_
  replace hw := hw.2
  refine r_toph fun hv1 ehv1 => ?_
  replace hw := hw hv1 ehv1
  refine r_aload_n C dX12_lay_5 0 rfl ?_
  have hob := hw.1
  replace hw := hw.2
  refine r_callV C (As := []) (rest := []) (c_X12_takesTown G hv1 a0  _ hw) yl_X12_takesTown (gm8 (List.mem_of_getElem? (i := 73) rfl) rfl) (gm8 (List.mem_of_getElem? (i := 75) rfl) rfl) (ci := 11) rfl (by decide) (gsel (List.mem_of_getElem? (i := 72) rfl)) hob (by decide) rfl (Nat.le_of_ble_eq_true rfl) dX12_lay_6 rfl (kI fun hv2 iv3 hw => ?_)
  refine r_if_ne C dX12_lay_9 14 (by decide) (fun hc => ?_) (fun hc => ?_)
  · replace hw := hw.1 hc
    refine r_aload_n C dX12_lay_14 0 rfl ?_
    have hob := hw.1
    replace hw := hw.2
    refine r_callV C (As := []) (rest := []) (c_X12_keepTown G hv2 a0  _ hw) yl_X12_keepTown (gm8 (List.mem_of_getElem? (i := 93) rfl) rfl) (gm8 (List.mem_of_getElem? (i := 95) rfl) rfl) (ci := 11) rfl (by decide) (gsel (List.mem_of_getElem? (i := 77) rfl)) hob (by decide) rfl (Nat.le_of_ble_eq_true rfl) dX12_lay_15 rfl (kV fun hv4  hw => ?_)
    refine r_iconst (v := 1) C dX12_lay_18 (by decide) ?_
    exact r_zret C hr dX12_lay_19 hw.1 hw.2
  · replace hw := hw.2 hc
    refine r_iconst (v := 0) C dX12_lay_12 (by decide) ?_
    exact r_zret C hr dX12_lay_13 hw.1 hw.2
theorem dX12_aground_0 : decode cX12_aground 0 = .ok (.aload_n 0, 1) := by decide +kernel
theorem dX12_aground_1 : decode cX12_aground 1 = .ok (.iconst 0, 1) := by decide +kernel
theorem dX12_aground_2 : decode cX12_aground 2 = .ok (.putfield 1, 3) := by decide +kernel
theorem dX12_aground_5 : decode cX12_aground 5 = .ok (.iload_n 1, 1) := by decide +kernel
theorem dX12_aground_6 : decode cX12_aground 6 = .ok (.invokestatic 290, 3) := by decide +kernel
theorem dX12_aground_9 : decode cX12_aground 9 = .ok (.ifCond .ne 5, 3) := by decide +kernel
theorem dX12_aground_12 : decode cX12_aground 12 = .ok (.iconst (-1), 1) := by decide +kernel
theorem dX12_aground_13 : decode cX12_aground 13 = .ok (.ireturn, 1) := by decide +kernel
theorem dX12_aground_14 : decode cX12_aground 14 = .ok (.aload_n 0, 1) := by decide +kernel
theorem dX12_aground_15 : decode cX12_aground 15 = .ok (.invokevirtual 317, 3) := by decide +kernel
theorem dX12_aground_18 : decode cX12_aground 18 = .ok (.iconst 0, 1) := by decide +kernel
theorem dX12_aground_19 : decode cX12_aground 19 = .ok (.istore_n 2, 1) := by decide +kernel
theorem dX12_aground_20 : decode cX12_aground 20 = .ok (.iconst 0, 1) := by decide +kernel
theorem dX12_aground_21 : decode cX12_aground 21 = .ok (.istore_n 3, 1) := by decide +kernel
theorem dX12_aground_22 : decode cX12_aground 22 = .ok (.iload_n 3, 1) := by decide +kernel
theorem dX12_aground_23 : decode cX12_aground 23 = .ok (.aload_n 0, 1) := by decide +kernel
theorem dX12_aground_24 : decode cX12_aground 24 = .ok (.getfield 33, 3) := by decide +kernel
theorem dX12_aground_27 : decode cX12_aground 27 = .ok (.iconst 2, 1) := by decide +kernel
theorem dX12_aground_28 : decode cX12_aground 28 = .ok (.iaload, 1) := by decide +kernel
theorem dX12_aground_29 : decode cX12_aground 29 = .ok (.if_icmp .ge 28, 3) := by decide +kernel
theorem dX12_aground_32 : decode cX12_aground 32 = .ok (.iload_n 2, 1) := by decide +kernel
theorem dX12_aground_33 : decode cX12_aground 33 = .ok (.aload_n 0, 1) := by decide +kernel
theorem dX12_aground_34 : decode cX12_aground 34 = .ok (.iload_n 3, 1) := by decide +kernel
theorem dX12_aground_35 : decode cX12_aground 35 = .ok (.iload_n 1, 1) := by decide +kernel
theorem dX12_aground_36 : decode cX12_aground 36 = .ok (.invokevirtual 338, 3) := by decide +kernel
theorem dX12_aground_39 : decode cX12_aground 39 = .ok (.ifCond .eq 7, 3) := by decide +kernel
theorem dX12_aground_42 : decode cX12_aground 42 = .ok (.iconst 0, 1) := by decide +kernel
theorem dX12_aground_43 : decode cX12_aground 43 = .ok (.goto 6, 3) := by decide +kernel
theorem dX12_aground_46 : decode cX12_aground 46 = .ok (.iconst 1, 1) := by decide +kernel
theorem dX12_aground_47 : decode cX12_aground 47 = .ok (.iload_n 3, 1) := by decide +kernel
theorem dX12_aground_48 : decode cX12_aground 48 = .ok (.ishl, 1) := by decide +kernel
theorem dX12_aground_49 : decode cX12_aground 49 = .ok (.ior, 1) := by decide +kernel
theorem dX12_aground_50 : decode cX12_aground 50 = .ok (.istore_n 2, 1) := by decide +kernel
theorem dX12_aground_51 : decode cX12_aground 51 = .ok (.iinc 3 1, 3) := by decide +kernel
theorem dX12_aground_54 : decode cX12_aground 54 = .ok (.goto (-32), 3) := by decide +kernel
theorem dX12_aground_57 : decode cX12_aground 57 = .ok (.iload_n 2, 1) := by decide +kernel
theorem dX12_aground_58 : decode cX12_aground 58 = .ok (.ireturn, 1) := by decide +kernel
def wb_X12_aground_49 (K22 : AH → Nat → Int32 → Int32 → Int32 → Prop) (h : AH) (al0 : Nat) (xl1 : Int32) (xl3 : Int32) (xs0 : Int32) (xs1 : Int32) (post : AH → Int32 → Prop) : Prop := ∀ iv1 : Int32, iv1 = xs1 ||| xs0 → (∀ iv2 : Int32, iv2 = xl3 + 1 → (K22 h al0 xl1 iv1 iv2))
set_option maxRecDepth 100000 in
theorem tb_X12_aground_49 {G : GG} {p : Program} {l : Launch} {e : Env} {R : Room} {s : State} {m : MethodId} {args : Array Value} {below : List Frame} {meth : Method} {c : Code} {n0 s0 : Nat} {post : AH → Int32 → Prop} (C : Cx G p R s m args meth c 4 cX12_aground RX12 n0 s0 2 48) (hr : meth.sig.returnType = (some .int)) {K22 : AH → Nat → Int32 → Int32 → Int32 → Prop} (hK22 : ∀ (h : AH) (al0 : Nat) (xl1 : Int32) (xl2 : Int32) (xl3 : Int32), K22 h al0 xl1 xl2 xl3 → AW G p l e R s m args below meth c 4 (QM G (pI post) args s below n0 s0) 22 [(0, .ref (G.1 + al0)), (1, .int xl1), (2, .int xl2), (3, .int xl3)] [] h) {h : AH} {al0 : Nat} {xl1 : Int32} {xl3 : Int32} {xs0 : Int32} {xs1 : Int32} (hw : wb_X12_aground_49 K22 h al0 xl1 xl3 xs0 xs1 post) : AW G p l e R s m args below meth c 4 (QM G (pI post) args s below n0 s0) 49 [(0, .ref (G.1 + al0)), (1, .int xl1), (3, .int xl3)] [.int xs0, .int xs1] h := by
  unfold wb_X12_aground_49 at hw
  refine r_ior C dX12_aground_49 ?_
  refine r_topi fun iv1 eiv1 => ?_
  replace hw := hw iv1 eiv1
  refine r_istore_n C dX12_aground_50 [(2, .int iv1), (0, .ref (G.1 + al0)), (1, .int xl1), (3, .int xl3)] (by decide) rfl ?_
  obtain ⟨iv2, eiv2⟩ : ∃ q : Int32, q = xl3 + 1 := ⟨_, rfl⟩
  replace hw := hw iv2 eiv2
  refine r_iinc C dX12_aground_51 3 rfl (by rw [eiv2]; rfl) [(3, .int iv2), (2, .int iv1), (0, .ref (G.1 + al0)), (1, .int xl1)] (by decide) rfl ?_
  refine r_goto C dX12_aground_54 22 (by decide) ?_
  refine r_sub [2, 3, 1, 0] rfl ?_
  exact hK22 _ _ _ _ _ hw
def wb_X12_aground_22 (K22 : AH → Nat → Int32 → Int32 → Int32 → Prop) (h : AH) (al0 : Nat) (xl1 : Int32) (xl2 : Int32) (xl3 : Int32)  (post : AH → Int32 → Prop) : Prop := (ob h al0 11) ∧ (∃ rv1, aP h al0 6 = some rv1 ∧ ((ob h rv1 13) ∧ ((vp_in 2 (aL h rv1)) ∧ (((aI h rv1 (2 : Int32).toNatClampNeg) ≤ xl3 → (post h xl2)) ∧ (¬ (aI h rv1 (2 : Int32).toNatClampNeg) ≤ xl3 → ((ob h al0 11) ∧ wp_X12_doesFloat h al0 xl3 xl1 (fun hv2 iv3 => (iv3 = 0 → (wb_X12_aground_49 K22 hv2 al0 xl1 xl3 ((1 : Int32) <<< (xl3 &&& 31)) xl2 post)) ∧ (¬ iv3 = 0 → (wb_X12_aground_49 K22 hv2 al0 xl1 xl3 0 xl2 post)))))))))
set_option maxRecDepth 100000 in
theorem tb_X12_aground_22 {G : GG} {p : Program} {l : Launch} {e : Env} {R : Room} {s : State} {m : MethodId} {args : Array Value} {below : List Frame} {meth : Method} {c : Code} {n0 s0 : Nat} {post : AH → Int32 → Prop} (C : Cx G p R s m args meth c 4 cX12_aground RX12 n0 s0 2 48) (hr : meth.sig.returnType = (some .int)) {K22 : AH → Nat → Int32 → Int32 → Int32 → Prop} (hK22 : ∀ (h : AH) (al0 : Nat) (xl1 : Int32) (xl2 : Int32) (xl3 : Int32), K22 h al0 xl1 xl2 xl3 → AW G p l e R s m args below meth c 4 (QM G (pI post) args s below n0 s0) 22 [(0, .ref (G.1 + al0)), (1, .int xl1), (2, .int xl2), (3, .int xl3)] [] h) {h : AH} {al0 : Nat} {xl1 : Int32} {xl2 : Int32} {xl3 : Int32}  (hw : wb_X12_aground_22 K22 h al0 xl1 xl2 xl3 post) : AW G p l e R s m args below meth c 4 (QM G (pI post) args s below n0 s0) 22 [(0, .ref (G.1 + al0)), (1, .int xl1), (2, .int xl2), (3, .int xl3)] [] h := by
  unfold wb_X12_aground_22 at hw
  refine r_iload_n C dX12_aground_22 3 rfl ?_
  refine r_aload_n C dX12_aground_23 0 rfl ?_
  have hob := hw.1
  obtain ⟨rv1, hp, hw⟩ := hw.2
  refine r_getP C fl_RX12_33_11 hob hp (fun _ _ _ => rfl) dX12_aground_24 ?_
  refine r_iconst (v := 2) C dX12_aground_27 (by decide) ?_
  refine r_iaload C hw.1 hw.2.1 dX12_aground_28 ?_
  replace hw := hw.2.2
  refine r_icmp_ge C dX12_aground_29 57 (by decide) (fun hc => ?_) (fun hc => ?_)
  · replace hw := hw.1 hc
    refine r_iload_n C dX12_aground_57 2 rfl ?_
    exact r_iret C hr dX12_aground_58 hw
  · replace hw := hw.2 hc
    refine r_iload_n C dX12_aground_32 2 rfl ?_
    refine r_aload_n C dX12_aground_33 0 rfl ?_
    refine r_iload_n C dX12_aground_34 3 rfl ?_
    refine r_iload_n C dX12_aground_35 1 rfl ?_
    have hob := hw.1
    replace hw := hw.2
    refine r_callV C (As := [.int xl3, .int xl1]) (rest := [.int xl2]) (c_X12_doesFloat G h al0 xl3 xl1 _ hw) yl_X12_doesFloat (gm8 (List.mem_of_getElem? (i := 101) rfl) rfl) (gm8 (List.mem_of_getElem? (i := 103) rfl) rfl) (ci := 11) rfl (by decide) (gsel (List.mem_of_getElem? (i := 78) rfl)) hob (by decide) rfl (Nat.le_of_ble_eq_true rfl) dX12_aground_36 rfl (kI fun hv2 iv3 hw => ?_)
    refine r_if_eq C dX12_aground_39 46 (by decide) (fun hc => ?_) (fun hc => ?_)
    · replace hw := hw.1 hc
      refine r_iconst (v := 1) C dX12_aground_46 (by decide) ?_
      refine r_iload_n C dX12_aground_47 3 rfl ?_
      refine r_ishl C dX12_aground_48 ?_
      refine r_sub [0, 1, 3] rfl ?_
      exact tb_X12_aground_49 C hr hK22 hw
    · replace hw := hw.2 hc
      refine r_iconst (v := 0) C dX12_aground_42 (by decide) ?_
      refine r_goto C dX12_aground_43 49 (by decide) ?_
      refine r_sub [0, 1, 3] rfl ?_
      exact tb_X12_aground_49 C hr hK22 hw
def wl_X12_aground_22  (post : AH → Int32 → Prop) : Nat → AH → Nat → Int32 → Int32 → Int32 → Prop
  | 0 => fun _ _ _ _ _ => False
  | n + 1 => fun h al0 xl1 xl2 xl3 => wb_X12_aground_22  (wl_X12_aground_22  post n) h al0 xl1 xl2 xl3 post
theorem tl_X12_aground_22 {G : GG} {p : Program} {l : Launch} {e : Env} {R : Room} {s : State} {m : MethodId} {args : Array Value} {below : List Frame} {meth : Method} {c : Code} {n0 s0 : Nat} {post : AH → Int32 → Prop} (C : Cx G p R s m args meth c 4 cX12_aground RX12 n0 s0 2 48) (hr : meth.sig.returnType = (some .int))   : ∀ (n : Nat) (h : AH) (al0 : Nat) (xl1 : Int32) (xl2 : Int32) (xl3 : Int32), wl_X12_aground_22  post n h al0 xl1 xl2 xl3 → AW G p l e R s m args below meth c 4 (QM G (pI post) args s below n0 s0) 22 [(0, .ref (G.1 + al0)), (1, .int xl1), (2, .int xl2), (3, .int xl3)] [] h := by
  intro n
  induction n with
  | zero => intro h al0 xl1 xl2 xl3 hw; exact hw.elim
  | succ n ih => intro h al0 xl1 xl2 xl3 hw; exact tb_X12_aground_22 C hr  ih hw
def wp_X12_aground (h : AH) (a0 : Nat) (x1 : Int32) (post : AH → Int32 → Prop) : Prop := (ob h a0 11) ∧ (∀ hv1 : AH, hv1 = hI h a0 0 0 → (wp_X12_isHour hv1 x1 (fun hv2 iv3 => (¬ iv3 = 0 → ((ob hv2 a0 11) ∧ wp_X12_asItIs hv2 a0  (fun hv4  => ∃ n, wl_X12_aground_22  post n hv4 a0 x1 0 0))) ∧ (iv3 = 0 → (post hv2 (-1))))))
set_option maxRecDepth 100000 in
theorem c_X12_aground (G : GG) (h : AH) (a0 : Nat) (x1 : Int32) (post : AH → Int32 → Prop) (hw : wp_X12_aground h a0 x1 post) : MC G yX12_aground cX12_aground 4 (some .int) 2 48 h [.ref (G.1 + a0), .int x1] (pI post) := by
  refine MC.of (lv := [(0, .ref (G.1 + a0)), (1, .int x1)]) (by decide) (Nat.le_of_ble_eq_true rfl) rfl fun p l e R s m args below meth c C hr hnm => ?_
  unfold wp_X12_aground at hw
  refine r_aload_n C dX12_aground_0 0 rfl ?_
  refine r_iconst (v := 0) C dX12_aground_1 (by decide) ?_
  refine r_putI C fp_RX12_1_11 hw.1 rfl dX12_aground_2 ?_
  replace hw := hw.2
  refine r_toph fun hv1 ehv1 => ?_
  replace hw := hw hv1 ehv1
  refine r_iload_n C dX12_aground_5 1 rfl ?_
  refine r_callS C (As := [.int x1]) (rest := []) (c_X12_isHour G hv1 x1 _ hw) yl_X12_isHour (gm8 (List.mem_of_getElem? (i := 38) rfl) rfl) (gm8 (List.mem_of_getElem? (i := 39) rfl) rfl) (by decide) rfl (Nat.le_of_ble_eq_true rfl) dX12_aground_6 rfl (kI fun hv2 iv3 hw => ?_)
  refine r_if_ne C dX12_aground_9 14 (by decide) (fun hc => ?_) (fun hc => ?_)
  · replace hw := hw.1 hc
    refine r_aload_n C dX12_aground_14 0 rfl ?_
    have hob := hw.1
    replace hw := hw.2
    refine r_callV C (As := []) (rest := []) (c_X12_asItIs G hv2 a0  _ hw) yl_X12_asItIs (gm8 (List.mem_of_getElem? (i := 57) rfl) rfl) (gm8 (List.mem_of_getElem? (i := 59) rfl) rfl) (ci := 11) rfl (by decide) (gsel (List.mem_of_getElem? (i := 70) rfl)) hob (by decide) rfl (Nat.le_of_ble_eq_true rfl) dX12_aground_15 rfl (kV fun hv4  hw => ?_)
    refine r_iconst (v := 0) C dX12_aground_18 (by decide) ?_
    refine r_istore_n C dX12_aground_19 [(2, .int 0), (0, .ref (G.1 + a0)), (1, .int x1)] (by decide) rfl ?_
    refine r_iconst (v := 0) C dX12_aground_20 (by decide) ?_
    refine r_istore_n C dX12_aground_21 [(3, .int 0), (2, .int 0), (0, .ref (G.1 + a0)), (1, .int x1)] (by decide) rfl ?_
    refine r_sub [2, 3, 1, 0] rfl ?_
    obtain ⟨n, hw⟩ := hw
    exact tl_X12_aground_22 C hr  n _ _ _ _ _ hw
  · replace hw := hw.2 hc
    refine r_iconst (v := (-1)) C dX12_aground_12 (by decide) ?_
    exact r_iret C hr dX12_aground_13 hw
theorem dX12_breaks_0 : decode cX12_breaks 0 = .ok (.aload_n 0, 1) := by decide +kernel
theorem dX12_breaks_1 : decode cX12_breaks 1 = .ok (.iconst 0, 1) := by decide +kernel
theorem dX12_breaks_2 : decode cX12_breaks 2 = .ok (.putfield 1, 3) := by decide +kernel
theorem dX12_breaks_5 : decode cX12_breaks 5 = .ok (.iload_n 1, 1) := by decide +kernel
theorem dX12_breaks_6 : decode cX12_breaks 6 = .ok (.invokestatic 290, 3) := by decide +kernel
theorem dX12_breaks_9 : decode cX12_breaks 9 = .ok (.ifCond .ne 5, 3) := by decide +kernel
theorem dX12_breaks_12 : decode cX12_breaks 12 = .ok (.iconst (-1), 1) := by decide +kernel
theorem dX12_breaks_13 : decode cX12_breaks 13 = .ok (.ireturn, 1) := by decide +kernel
theorem dX12_breaks_14 : decode cX12_breaks 14 = .ok (.aload_n 0, 1) := by decide +kernel
theorem dX12_breaks_15 : decode cX12_breaks 15 = .ok (.invokevirtual 317, 3) := by decide +kernel
theorem dX12_breaks_18 : decode cX12_breaks 18 = .ok (.iconst 0, 1) := by decide +kernel
theorem dX12_breaks_19 : decode cX12_breaks 19 = .ok (.istore_n 2, 1) := by decide +kernel
theorem dX12_breaks_20 : decode cX12_breaks 20 = .ok (.iconst 0, 1) := by decide +kernel
theorem dX12_breaks_21 : decode cX12_breaks 21 = .ok (.istore_n 3, 1) := by decide +kernel
theorem dX12_breaks_22 : decode cX12_breaks 22 = .ok (.iload_n 3, 1) := by decide +kernel
theorem dX12_breaks_23 : decode cX12_breaks 23 = .ok (.aload_n 0, 1) := by decide +kernel
theorem dX12_breaks_24 : decode cX12_breaks 24 = .ok (.getfield 33, 3) := by decide +kernel
theorem dX12_breaks_27 : decode cX12_breaks 27 = .ok (.iconst 2, 1) := by decide +kernel
theorem dX12_breaks_28 : decode cX12_breaks 28 = .ok (.iaload, 1) := by decide +kernel
theorem dX12_breaks_29 : decode cX12_breaks 29 = .ok (.if_icmp .ge 158, 3) := by decide +kernel
theorem dX12_breaks_32 : decode cX12_breaks 32 = .ok (.bipush 9, 2) := by decide +kernel
theorem dX12_breaks_34 : decode cX12_breaks 34 = .ok (.istore 4, 2) := by decide +kernel
theorem dX12_breaks_36 : decode cX12_breaks 36 = .ok (.iconst 0, 1) := by decide +kernel
theorem dX12_breaks_37 : decode cX12_breaks 37 = .ok (.istore 5, 2) := by decide +kernel
theorem dX12_breaks_39 : decode cX12_breaks 39 = .ok (.iconst 0, 1) := by decide +kernel
theorem dX12_breaks_40 : decode cX12_breaks 40 = .ok (.istore 6, 2) := by decide +kernel
theorem dX12_breaks_42 : decode cX12_breaks 42 = .ok (.iload 6, 2) := by decide +kernel
theorem dX12_breaks_44 : decode cX12_breaks 44 = .ok (.aload_n 0, 1) := by decide +kernel
theorem dX12_breaks_45 : decode cX12_breaks 45 = .ok (.getfield 33, 3) := by decide +kernel
theorem dX12_breaks_48 : decode cX12_breaks 48 = .ok (.iconst 1, 1) := by decide +kernel
theorem dX12_breaks_49 : decode cX12_breaks 49 = .ok (.iaload, 1) := by decide +kernel
theorem dX12_breaks_50 : decode cX12_breaks 50 = .ok (.if_icmp .ge 103, 3) := by decide +kernel
theorem dX12_breaks_53 : decode cX12_breaks 53 = .ok (.iconst 0, 1) := by decide +kernel
theorem dX12_breaks_54 : decode cX12_breaks 54 = .ok (.istore 7, 2) := by decide +kernel
theorem dX12_breaks_56 : decode cX12_breaks 56 = .ok (.iload 7, 2) := by decide +kernel
theorem dX12_breaks_58 : decode cX12_breaks 58 = .ok (.aload_n 0, 1) := by decide +kernel
theorem dX12_breaks_59 : decode cX12_breaks 59 = .ok (.getfield 33, 3) := by decide +kernel
theorem dX12_breaks_62 : decode cX12_breaks 62 = .ok (.iconst 0, 1) := by decide +kernel
theorem dX12_breaks_63 : decode cX12_breaks 63 = .ok (.iaload, 1) := by decide +kernel
theorem dX12_breaks_64 : decode cX12_breaks 64 = .ok (.if_icmp .ge 83, 3) := by decide +kernel
theorem dX12_breaks_67 : decode cX12_breaks 67 = .ok (.aload_n 0, 1) := by decide +kernel
theorem dX12_breaks_68 : decode cX12_breaks 68 = .ok (.getfield 33, 3) := by decide +kernel
theorem dX12_breaks_71 : decode cX12_breaks 71 = .ok (.bipush 11, 2) := by decide +kernel
theorem dX12_breaks_73 : decode cX12_breaks 73 = .ok (.bipush 8, 2) := by decide +kernel
theorem dX12_breaks_75 : decode cX12_breaks 75 = .ok (.iload 6, 2) := by decide +kernel
theorem dX12_breaks_77 : decode cX12_breaks 77 = .ok (.imul, 1) := by decide +kernel
theorem dX12_breaks_78 : decode cX12_breaks 78 = .ok (.iadd, 1) := by decide +kernel
theorem dX12_breaks_79 : decode cX12_breaks 79 = .ok (.iload 7, 2) := by decide +kernel
theorem dX12_breaks_81 : decode cX12_breaks 81 = .ok (.iadd, 1) := by decide +kernel
theorem dX12_breaks_82 : decode cX12_breaks 82 = .ok (.iaload, 1) := by decide +kernel
theorem dX12_breaks_83 : decode cX12_breaks 83 = .ok (.istore 8, 2) := by decide +kernel
theorem dX12_breaks_85 : decode cX12_breaks 85 = .ok (.aload_n 0, 1) := by decide +kernel
theorem dX12_breaks_86 : decode cX12_breaks 86 = .ok (.iload_n 3, 1) := by decide +kernel
theorem dX12_breaks_87 : decode cX12_breaks 87 = .ok (.iload 7, 2) := by decide +kernel
theorem dX12_breaks_89 : decode cX12_breaks 89 = .ok (.iload 6, 2) := by decide +kernel
theorem dX12_breaks_91 : decode cX12_breaks 91 = .ok (.invokevirtual 320, 3) := by decide +kernel
theorem dX12_breaks_94 : decode cX12_breaks 94 = .ok (.ifCond .eq 15, 3) := by decide +kernel
theorem dX12_breaks_97 : decode cX12_breaks 97 = .ok (.iload 8, 2) := by decide +kernel
theorem dX12_breaks_99 : decode cX12_breaks 99 = .ok (.iload 4, 2) := by decide +kernel
theorem dX12_breaks_101 : decode cX12_breaks 101 = .ok (.if_icmp .ge 8, 3) := by decide +kernel
theorem dX12_breaks_104 : decode cX12_breaks 104 = .ok (.iload 8, 2) := by decide +kernel
theorem dX12_breaks_106 : decode cX12_breaks 106 = .ok (.goto 5, 3) := by decide +kernel
theorem dX12_breaks_109 : decode cX12_breaks 109 = .ok (.iload 4, 2) := by decide +kernel
theorem dX12_breaks_111 : decode cX12_breaks 111 = .ok (.istore 4, 2) := by decide +kernel
theorem dX12_breaks_113 : decode cX12_breaks 113 = .ok (.aload_n 0, 1) := by decide +kernel
theorem dX12_breaks_114 : decode cX12_breaks 114 = .ok (.iload_n 3, 1) := by decide +kernel
theorem dX12_breaks_115 : decode cX12_breaks 115 = .ok (.iload 7, 2) := by decide +kernel
theorem dX12_breaks_117 : decode cX12_breaks 117 = .ok (.iload 6, 2) := by decide +kernel
theorem dX12_breaks_119 : decode cX12_breaks 119 = .ok (.invokevirtual 320, 3) := by decide +kernel
theorem dX12_breaks_122 : decode cX12_breaks 122 = .ok (.ifCond .eq 15, 3) := by decide +kernel
theorem dX12_breaks_125 : decode cX12_breaks 125 = .ok (.iload 8, 2) := by decide +kernel
theorem dX12_breaks_127 : decode cX12_breaks 127 = .ok (.iload 5, 2) := by decide +kernel
theorem dX12_breaks_129 : decode cX12_breaks 129 = .ok (.if_icmp .le 8, 3) := by decide +kernel
theorem dX12_breaks_132 : decode cX12_breaks 132 = .ok (.iload 8, 2) := by decide +kernel
theorem dX12_breaks_134 : decode cX12_breaks 134 = .ok (.goto 5, 3) := by decide +kernel
theorem dX12_breaks_137 : decode cX12_breaks 137 = .ok (.iload 5, 2) := by decide +kernel
theorem dX12_breaks_139 : decode cX12_breaks 139 = .ok (.istore 5, 2) := by decide +kernel
theorem dX12_breaks_141 : decode cX12_breaks 141 = .ok (.iinc 7 1, 3) := by decide +kernel
theorem dX12_breaks_144 : decode cX12_breaks 144 = .ok (.goto (-88), 3) := by decide +kernel
theorem dX12_breaks_147 : decode cX12_breaks 147 = .ok (.iinc 6 1, 3) := by decide +kernel
theorem dX12_breaks_150 : decode cX12_breaks 150 = .ok (.goto (-108), 3) := by decide +kernel
theorem dX12_breaks_153 : decode cX12_breaks 153 = .ok (.iload_n 2, 1) := by decide +kernel
theorem dX12_breaks_154 : decode cX12_breaks 154 = .ok (.iload 5, 2) := by decide +kernel
theorem dX12_breaks_156 : decode cX12_breaks 156 = .ok (.iload 4, 2) := by decide +kernel
theorem dX12_breaks_158 : decode cX12_breaks 158 = .ok (.isub, 1) := by decide +kernel
theorem dX12_breaks_159 : decode cX12_breaks 159 = .ok (.iconst 1, 1) := by decide +kernel
theorem dX12_breaks_160 : decode cX12_breaks 160 = .ok (.if_icmp .le 18, 3) := by decide +kernel
theorem dX12_breaks_163 : decode cX12_breaks 163 = .ok (.aload_n 0, 1) := by decide +kernel
theorem dX12_breaks_164 : decode cX12_breaks 164 = .ok (.iload_n 3, 1) := by decide +kernel
theorem dX12_breaks_165 : decode cX12_breaks 165 = .ok (.iload_n 1, 1) := by decide +kernel
theorem dX12_breaks_166 : decode cX12_breaks 166 = .ok (.invokevirtual 338, 3) := by decide +kernel
theorem dX12_breaks_169 : decode cX12_breaks 169 = .ok (.ifCond .ne 9, 3) := by decide +kernel
theorem dX12_breaks_172 : decode cX12_breaks 172 = .ok (.iconst 1, 1) := by decide +kernel
theorem dX12_breaks_173 : decode cX12_breaks 173 = .ok (.iload_n 3, 1) := by decide +kernel
theorem dX12_breaks_174 : decode cX12_breaks 174 = .ok (.ishl, 1) := by decide +kernel
theorem dX12_breaks_175 : decode cX12_breaks 175 = .ok (.goto 4, 3) := by decide +kernel
theorem dX12_breaks_178 : decode cX12_breaks 178 = .ok (.iconst 0, 1) := by decide +kernel
theorem dX12_breaks_179 : decode cX12_breaks 179 = .ok (.ior, 1) := by decide +kernel
theorem dX12_breaks_180 : decode cX12_breaks 180 = .ok (.istore_n 2, 1) := by decide +kernel
theorem dX12_breaks_181 : decode cX12_breaks 181 = .ok (.iinc 3 1, 3) := by decide +kernel
theorem dX12_breaks_184 : decode cX12_breaks 184 = .ok (.goto (-162), 3) := by decide +kernel
theorem dX12_breaks_187 : decode cX12_breaks 187 = .ok (.iload_n 2, 1) := by decide +kernel
theorem dX12_breaks_188 : decode cX12_breaks 188 = .ok (.ireturn, 1) := by decide +kernel
def wb_X12_breaks_179 (K22 : AH → Nat → Int32 → Int32 → Int32 → Prop) (h : AH) (al0 : Nat) (xl1 : Int32) (xl3 : Int32) (xs0 : Int32) (xs1 : Int32) (post : AH → Int32 → Prop) : Prop := ∀ iv1 : Int32, iv1 = xs1 ||| xs0 → (∀ iv2 : Int32, iv2 = xl3 + 1 → (K22 h al0 xl1 iv1 iv2))
set_option maxRecDepth 100000 in
theorem tb_X12_breaks_179 {G : GG} {p : Program} {l : Launch} {e : Env} {R : Room} {s : State} {m : MethodId} {args : Array Value} {below : List Frame} {meth : Method} {c : Code} {n0 s0 : Nat} {post : AH → Int32 → Prop} (C : Cx G p R s m args meth c 9 cX12_breaks RX12 n0 s0 2 48) (hr : meth.sig.returnType = (some .int)) {K22 : AH → Nat → Int32 → Int32 → Int32 → Prop} (hK22 : ∀ (h : AH) (al0 : Nat) (xl1 : Int32) (xl2 : Int32) (xl3 : Int32), K22 h al0 xl1 xl2 xl3 → AW G p l e R s m args below meth c 9 (QM G (pI post) args s below n0 s0) 22 [(0, .ref (G.1 + al0)), (1, .int xl1), (2, .int xl2), (3, .int xl3)] [] h) {h : AH} {al0 : Nat} {xl1 : Int32} {xl3 : Int32} {xs0 : Int32} {xs1 : Int32} (hw : wb_X12_breaks_179 K22 h al0 xl1 xl3 xs0 xs1 post) : AW G p l e R s m args below meth c 9 (QM G (pI post) args s below n0 s0) 179 [(0, .ref (G.1 + al0)), (1, .int xl1), (3, .int xl3)] [.int xs0, .int xs1] h := by
  unfold wb_X12_breaks_179 at hw
  refine r_ior C dX12_breaks_179 ?_
  refine r_topi fun iv1 eiv1 => ?_
  replace hw := hw iv1 eiv1
  refine r_istore_n C dX12_breaks_180 [(2, .int iv1), (0, .ref (G.1 + al0)), (1, .int xl1), (3, .int xl3)] (by decide) rfl ?_
  obtain ⟨iv2, eiv2⟩ : ∃ q : Int32, q = xl3 + 1 := ⟨_, rfl⟩
  replace hw := hw iv2 eiv2
  refine r_iinc C dX12_breaks_181 3 rfl (by rw [eiv2]; rfl) [(3, .int iv2), (2, .int iv1), (0, .ref (G.1 + al0)), (1, .int xl1)] (by decide) rfl ?_
  refine r_goto C dX12_breaks_184 22 (by decide) ?_
  refine r_sub [2, 3, 1, 0] rfl ?_
  exact hK22 _ _ _ _ _ hw
def wb_X12_breaks_178 (K22 : AH → Nat → Int32 → Int32 → Int32 → Prop) (h : AH) (al0 : Nat) (xl1 : Int32) (xl3 : Int32) (xs0 : Int32) (post : AH → Int32 → Prop) : Prop := wb_X12_breaks_179 K22 h al0 xl1 xl3 0 xs0 post
set_option maxRecDepth 100000 in
theorem tb_X12_breaks_178 {G : GG} {p : Program} {l : Launch} {e : Env} {R : Room} {s : State} {m : MethodId} {args : Array Value} {below : List Frame} {meth : Method} {c : Code} {n0 s0 : Nat} {post : AH → Int32 → Prop} (C : Cx G p R s m args meth c 9 cX12_breaks RX12 n0 s0 2 48) (hr : meth.sig.returnType = (some .int)) {K22 : AH → Nat → Int32 → Int32 → Int32 → Prop} (hK22 : ∀ (h : AH) (al0 : Nat) (xl1 : Int32) (xl2 : Int32) (xl3 : Int32), K22 h al0 xl1 xl2 xl3 → AW G p l e R s m args below meth c 9 (QM G (pI post) args s below n0 s0) 22 [(0, .ref (G.1 + al0)), (1, .int xl1), (2, .int xl2), (3, .int xl3)] [] h) {h : AH} {al0 : Nat} {xl1 : Int32} {xl3 : Int32} {xs0 : Int32} (hw : wb_X12_breaks_178 K22 h al0 xl1 xl3 xs0 post) : AW G p l e R s m args below meth c 9 (QM G (pI post) args s below n0 s0) 178 [(0, .ref (G.1 + al0)), (1, .int xl1), (3, .int xl3)] [.int xs0] h := by
  unfold wb_X12_breaks_178 at hw
  refine r_iconst (v := 0) C dX12_breaks_178 (by decide) ?_
  refine r_sub [0, 1, 2] rfl ?_
  exact tb_X12_breaks_179 C hr hK22 hw
def wb_X12_breaks_139 (K22 : AH → Nat → Int32 → Int32 → Int32 → Prop) (K42 : AH → Nat → Int32 → Int32 → Int32 → Int32 → Int32 → Int32 → Prop) (K56 : AH → Nat → Int32 → Int32 → Int32 → Int32 → Int32 → Int32 → Int32 → Prop) (h : AH) (al0 : Nat) (xl1 : Int32) (xl2 : Int32) (xl3 : Int32) (xl4 : Int32) (xl6 : Int32) (xl7 : Int32) (xs0 : Int32) (post : AH → Int32 → Prop) : Prop := ∀ iv1 : Int32, iv1 = xl7 + 1 → (K56 h al0 xl1 xl2 xl3 xl4 xs0 xl6 iv1)
set_option maxRecDepth 100000 in
theorem tb_X12_breaks_139 {G : GG} {p : Program} {l : Launch} {e : Env} {R : Room} {s : State} {m : MethodId} {args : Array Value} {below : List Frame} {meth : Method} {c : Code} {n0 s0 : Nat} {post : AH → Int32 → Prop} (C : Cx G p R s m args meth c 9 cX12_breaks RX12 n0 s0 2 48) (hr : meth.sig.returnType = (some .int)) {K22 : AH → Nat → Int32 → Int32 → Int32 → Prop} {K42 : AH → Nat → Int32 → Int32 → Int32 → Int32 → Int32 → Int32 → Prop} {K56 : AH → Nat → Int32 → Int32 → Int32 → Int32 → Int32 → Int32 → Int32 → Prop} (hK22 : ∀ (h : AH) (al0 : Nat) (xl1 : Int32) (xl2 : Int32) (xl3 : Int32), K22 h al0 xl1 xl2 xl3 → AW G p l e R s m args below meth c 9 (QM G (pI post) args s below n0 s0) 22 [(0, .ref (G.1 + al0)), (1, .int xl1), (2, .int xl2), (3, .int xl3)] [] h) (hK42 : ∀ (h : AH) (al0 : Nat) (xl1 : Int32) (xl2 : Int32) (xl3 : Int32) (xl4 : Int32) (xl5 : Int32) (xl6 : Int32), K42 h al0 xl1 xl2 xl3 xl4 xl5 xl6 → AW G p l e R s m args below meth c 9 (QM G (pI post) args s below n0 s0) 42 [(0, .ref (G.1 + al0)), (1, .int xl1), (2, .int xl2), (3, .int xl3), (4, .int xl4), (5, .int xl5), (6, .int xl6)] [] h) (hK56 : ∀ (h : AH) (al0 : Nat) (xl1 : Int32) (xl2 : Int32) (xl3 : Int32) (xl4 : Int32) (xl5 : Int32) (xl6 : Int32) (xl7 : Int32), K56 h al0 xl1 xl2 xl3 xl4 xl5 xl6 xl7 → AW G p l e R s m args below meth c 9 (QM G (pI post) args s below n0 s0) 56 [(0, .ref (G.1 + al0)), (1, .int xl1), (2, .int xl2), (3, .int xl3), (4, .int xl4), (5, .int xl5), (6, .int xl6), (7, .int xl7)] [] h) {h : AH} {al0 : Nat} {xl1 : Int32} {xl2 : Int32} {xl3 : Int32} {xl4 : Int32} {xl6 : Int32} {xl7 : Int32} {xs0 : Int32} (hw : wb_X12_breaks_139 K22 K42 K56 h al0 xl1 xl2 xl3 xl4 xl6 xl7 xs0 post) : AW G p l e R s m args below meth c 9 (QM G (pI post) args s below n0 s0) 139 [(0, .ref (G.1 + al0)), (1, .int xl1), (2, .int xl2), (3, .int xl3), (4, .int xl4), (6, .int xl6), (7, .int xl7)] [.int xs0] h := by
  unfold wb_X12_breaks_139 at hw
  refine r_istore C dX12_breaks_139 [(5, .int xs0), (0, .ref (G.1 + al0)), (1, .int xl1), (2, .int xl2), (3, .int xl3), (4, .int xl4), (6, .int xl6), (7, .int xl7)] (by decide) rfl ?_
  obtain ⟨iv1, eiv1⟩ : ∃ q : Int32, q = xl7 + 1 := ⟨_, rfl⟩
  replace hw := hw iv1 eiv1
  refine r_iinc C dX12_breaks_141 7 rfl (by rw [eiv1]; rfl) [(7, .int iv1), (5, .int xs0), (0, .ref (G.1 + al0)), (1, .int xl1), (2, .int xl2), (3, .int xl3), (4, .int xl4), (6, .int xl6)] (by decide) rfl ?_
  refine r_goto C dX12_breaks_144 56 (by decide) ?_
  refine r_sub [2, 3, 4, 5, 6, 1, 7, 0] rfl ?_
  exact hK56 _ _ _ _ _ _ _ _ _ hw
def wb_X12_breaks_137 (K22 : AH → Nat → Int32 → Int32 → Int32 → Prop) (K42 : AH → Nat → Int32 → Int32 → Int32 → Int32 → Int32 → Int32 → Prop) (K56 : AH → Nat → Int32 → Int32 → Int32 → Int32 → Int32 → Int32 → Int32 → Prop) (h : AH) (al0 : Nat) (xl1 : Int32) (xl2 : Int32) (xl3 : Int32) (xl4 : Int32) (xl5 : Int32) (xl6 : Int32) (xl7 : Int32)  (post : AH → Int32 → Prop) : Prop := wb_X12_breaks_139 K22 K42 K56 h al0 xl1 xl2 xl3 xl4 xl6 xl7 xl5 post
set_option maxRecDepth 100000 in
theorem tb_X12_breaks_137 {G : GG} {p : Program} {l : Launch} {e : Env} {R : Room} {s : State} {m : MethodId} {args : Array Value} {below : List Frame} {meth : Method} {c : Code} {n0 s0 : Nat} {post : AH → Int32 → Prop} (C : Cx G p R s m args meth c 9 cX12_breaks RX12 n0 s0 2 48) (hr : meth.sig.returnType = (some .int)) {K22 : AH → Nat → Int32 → Int32 → Int32 → Prop} {K42 : AH → Nat → Int32 → Int32 → Int32 → Int32 → Int32 → Int32 → Prop} {K56 : AH → Nat → Int32 → Int32 → Int32 → Int32 → Int32 → Int32 → Int32 → Prop} (hK22 : ∀ (h : AH) (al0 : Nat) (xl1 : Int32) (xl2 : Int32) (xl3 : Int32), K22 h al0 xl1 xl2 xl3 → AW G p l e R s m args below meth c 9 (QM G (pI post) args s below n0 s0) 22 [(0, .ref (G.1 + al0)), (1, .int xl1), (2, .int xl2), (3, .int xl3)] [] h) (hK42 : ∀ (h : AH) (al0 : Nat) (xl1 : Int32) (xl2 : Int32) (xl3 : Int32) (xl4 : Int32) (xl5 : Int32) (xl6 : Int32), K42 h al0 xl1 xl2 xl3 xl4 xl5 xl6 → AW G p l e R s m args below meth c 9 (QM G (pI post) args s below n0 s0) 42 [(0, .ref (G.1 + al0)), (1, .int xl1), (2, .int xl2), (3, .int xl3), (4, .int xl4), (5, .int xl5), (6, .int xl6)] [] h) (hK56 : ∀ (h : AH) (al0 : Nat) (xl1 : Int32) (xl2 : Int32) (xl3 : Int32) (xl4 : Int32) (xl5 : Int32) (xl6 : Int32) (xl7 : Int32), K56 h al0 xl1 xl2 xl3 xl4 xl5 xl6 xl7 → AW G p l e R s m args below meth c 9 (QM G (pI post) args s below n0 s0) 56 [(0, .ref (G.1 + al0)), (1, .int xl1), (2, .int xl2), (3, .int xl3), (4, .int xl4), (5, .int xl5), (6, .int xl6), (7, .int xl7)] [] h) {h : AH} {al0 : Nat} {xl1 : Int32} {xl2 : Int32} {xl3 : Int32} {xl4 : Int32} {xl5 : Int32} {xl6 : Int32} {xl7 : Int32}  (hw : wb_X12_breaks_137 K22 K42 K56 h al0 xl1 xl2 xl3 xl4 xl5 xl6 xl7 post) : AW G p l e R s m args below meth c 9 (QM G (pI post) args s below n0 s0) 137 [(0, .ref (G.1 + al0)), (1, .int xl1), (2, .int xl2), (3, .int xl3), (4, .int xl4), (5, .int xl5), (6, .int xl6), (7, .int xl7)] [] h := by
  unfold wb_X12_breaks_137 at hw
  refine r_iload C dX12_breaks_137 5 rfl ?_
  refine r_sub [0, 1, 2, 3, 4, 6, 7] rfl ?_
  exact tb_X12_breaks_139 C hr hK22 hK42 hK56 hw
def wb_X12_breaks_111 (K22 : AH → Nat → Int32 → Int32 → Int32 → Prop) (K42 : AH → Nat → Int32 → Int32 → Int32 → Int32 → Int32 → Int32 → Prop) (K56 : AH → Nat → Int32 → Int32 → Int32 → Int32 → Int32 → Int32 → Int32 → Prop) (h : AH) (al0 : Nat) (xl1 : Int32) (xl2 : Int32) (xl3 : Int32) (xl5 : Int32) (xl6 : Int32) (xl7 : Int32) (xl8 : Int32) (xs0 : Int32) (post : AH → Int32 → Prop) : Prop := (ob h al0 11) ∧ wp_X12_isOn h al0 xl3 xl7 xl6 (fun hv1 iv2 => (iv2 = 0 → (wb_X12_breaks_137 K22 K42 K56 hv1 al0 xl1 xl2 xl3 xs0 xl5 xl6 xl7 post)) ∧ (¬ iv2 = 0 → ((xl8 ≤ xl5 → (wb_X12_breaks_137 K22 K42 K56 hv1 al0 xl1 xl2 xl3 xs0 xl5 xl6 xl7 post)) ∧ (¬ xl8 ≤ xl5 → (wb_X12_breaks_139 K22 K42 K56 hv1 al0 xl1 xl2 xl3 xs0 xl6 xl7 xl8 post)))))
set_option maxRecDepth 100000 in
theorem tb_X12_breaks_111 {G : GG} {p : Program} {l : Launch} {e : Env} {R : Room} {s : State} {m : MethodId} {args : Array Value} {below : List Frame} {meth : Method} {c : Code} {n0 s0 : Nat} {post : AH → Int32 → Prop} (C : Cx G p R s m args meth c 9 cX12_breaks RX12 n0 s0 2 48) (hr : meth.sig.returnType = (some .int)) {K22 : AH → Nat → Int32 → Int32 → Int32 → Prop} {K42 : AH → Nat → Int32 → Int32 → Int32 → Int32 → Int32 → Int32 → Prop} {K56 : AH → Nat → Int32 → Int32 → Int32 → Int32 → Int32 → Int32 → Int32 → Prop} (hK22 : ∀ (h : AH) (al0 : Nat) (xl1 : Int32) (xl2 : Int32) (xl3 : Int32), K22 h al0 xl1 xl2 xl3 → AW G p l e R s m args below meth c 9 (QM G (pI post) args s below n0 s0) 22 [(0, .ref (G.1 + al0)), (1, .int xl1), (2, .int xl2), (3, .int xl3)] [] h) (hK42 : ∀ (h : AH) (al0 : Nat) (xl1 : Int32) (xl2 : Int32) (xl3 : Int32) (xl4 : Int32) (xl5 : Int32) (xl6 : Int32), K42 h al0 xl1 xl2 xl3 xl4 xl5 xl6 → AW G p l e R s m args below meth c 9 (QM G (pI post) args s below n0 s0) 42 [(0, .ref (G.1 + al0)), (1, .int xl1), (2, .int xl2), (3, .int xl3), (4, .int xl4), (5, .int xl5), (6, .int xl6)] [] h) (hK56 : ∀ (h : AH) (al0 : Nat) (xl1 : Int32) (xl2 : Int32) (xl3 : Int32) (xl4 : Int32) (xl5 : Int32) (xl6 : Int32) (xl7 : Int32), K56 h al0 xl1 xl2 xl3 xl4 xl5 xl6 xl7 → AW G p l e R s m args below meth c 9 (QM G (pI post) args s below n0 s0) 56 [(0, .ref (G.1 + al0)), (1, .int xl1), (2, .int xl2), (3, .int xl3), (4, .int xl4), (5, .int xl5), (6, .int xl6), (7, .int xl7)] [] h) {h : AH} {al0 : Nat} {xl1 : Int32} {xl2 : Int32} {xl3 : Int32} {xl5 : Int32} {xl6 : Int32} {xl7 : Int32} {xl8 : Int32} {xs0 : Int32} (hw : wb_X12_breaks_111 K22 K42 K56 h al0 xl1 xl2 xl3 xl5 xl6 xl7 xl8 xs0 post) : AW G p l e R s m args below meth c 9 (QM G (pI post) args s below n0 s0) 111 [(0, .ref (G.1 + al0)), (1, .int xl1), (2, .int xl2), (3, .int xl3), (5, .int xl5), (6, .int xl6), (7, .int xl7), (8, .int xl8)] [.int xs0] h := by
  unfold wb_X12_breaks_111 at hw
  refine r_istore C dX12_breaks_111 [(4, .int xs0), (0, .ref (G.1 + al0)), (1, .int xl1), (2, .int xl2), (3, .int xl3), (5, .int xl5), (6, .int xl6), (7, .int xl7), (8, .int xl8)] (by decide) rfl ?_
  refine r_aload_n C dX12_breaks_113 1 rfl ?_
  refine r_iload_n C dX12_breaks_114 4 rfl ?_
  refine r_iload C dX12_breaks_115 7 rfl ?_
  refine r_iload C dX12_breaks_117 6 rfl ?_
  have hob := hw.1
  replace hw := hw.2
  refine r_callV C (As := [.int xl3, .int xl7, .int xl6]) (rest := []) (c_X12_isOn G h al0 xl3 xl7 xl6 _ hw) yl_X12_isOn (gm8 (List.mem_of_getElem? (i := 65) rfl) rfl) (gm8 (List.mem_of_getElem? (i := 67) rfl) rfl) (ci := 11) rfl (by decide) (gsel (List.mem_of_getElem? (i := 71) rfl)) hob (by decide) rfl (Nat.le_of_ble_eq_true rfl) dX12_breaks_119 rfl (kI fun hv1 iv2 hw => ?_)
  refine r_if_eq C dX12_breaks_122 137 (by decide) (fun hc => ?_) (fun hc => ?_)
  · replace hw := hw.1 hc
    refine r_sub [1, 2, 3, 4, 0, 5, 6, 7] rfl ?_
    exact tb_X12_breaks_137 C hr hK22 hK42 hK56 hw
  · replace hw := hw.2 hc
    refine r_iload C dX12_breaks_125 8 rfl ?_
    refine r_iload C dX12_breaks_127 5 rfl ?_
    refine r_icmp_le C dX12_breaks_129 137 (by decide) (fun hc => ?_) (fun hc => ?_)
    · replace hw := hw.1 hc
      refine r_sub [1, 2, 3, 4, 0, 5, 6, 7] rfl ?_
      exact tb_X12_breaks_137 C hr hK22 hK42 hK56 hw
    · replace hw := hw.2 hc
      refine r_iload C dX12_breaks_132 8 rfl ?_
      refine r_goto C dX12_breaks_134 139 (by decide) ?_
      refine r_sub [1, 2, 3, 4, 0, 6, 7] rfl ?_
      exact tb_X12_breaks_139 C hr hK22 hK42 hK56 hw
def wb_X12_breaks_109 (K22 : AH → Nat → Int32 → Int32 → Int32 → Prop) (K42 : AH → Nat → Int32 → Int32 → Int32 → Int32 → Int32 → Int32 → Prop) (K56 : AH → Nat → Int32 → Int32 → Int32 → Int32 → Int32 → Int32 → Int32 → Prop) (h : AH) (al0 : Nat) (xl1 : Int32) (xl2 : Int32) (xl3 : Int32) (xl4 : Int32) (xl5 : Int32) (xl6 : Int32) (xl7 : Int32) (xl8 : Int32)  (post : AH → Int32 → Prop) : Prop := wb_X12_breaks_111 K22 K42 K56 h al0 xl1 xl2 xl3 xl5 xl6 xl7 xl8 xl4 post
set_option maxRecDepth 100000 in
theorem tb_X12_breaks_109 {G : GG} {p : Program} {l : Launch} {e : Env} {R : Room} {s : State} {m : MethodId} {args : Array Value} {below : List Frame} {meth : Method} {c : Code} {n0 s0 : Nat} {post : AH → Int32 → Prop} (C : Cx G p R s m args meth c 9 cX12_breaks RX12 n0 s0 2 48) (hr : meth.sig.returnType = (some .int)) {K22 : AH → Nat → Int32 → Int32 → Int32 → Prop} {K42 : AH → Nat → Int32 → Int32 → Int32 → Int32 → Int32 → Int32 → Prop} {K56 : AH → Nat → Int32 → Int32 → Int32 → Int32 → Int32 → Int32 → Int32 → Prop} (hK22 : ∀ (h : AH) (al0 : Nat) (xl1 : Int32) (xl2 : Int32) (xl3 : Int32), K22 h al0 xl1 xl2 xl3 → AW G p l e R s m args below meth c 9 (QM G (pI post) args s below n0 s0) 22 [(0, .ref (G.1 + al0)), (1, .int xl1), (2, .int xl2), (3, .int xl3)] [] h) (hK42 : ∀ (h : AH) (al0 : Nat) (xl1 : Int32) (xl2 : Int32) (xl3 : Int32) (xl4 : Int32) (xl5 : Int32) (xl6 : Int32), K42 h al0 xl1 xl2 xl3 xl4 xl5 xl6 → AW G p l e R s m args below meth c 9 (QM G (pI post) args s below n0 s0) 42 [(0, .ref (G.1 + al0)), (1, .int xl1), (2, .int xl2), (3, .int xl3), (4, .int xl4), (5, .int xl5), (6, .int xl6)] [] h) (hK56 : ∀ (h : AH) (al0 : Nat) (xl1 : Int32) (xl2 : Int32) (xl3 : Int32) (xl4 : Int32) (xl5 : Int32) (xl6 : Int32) (xl7 : Int32), K56 h al0 xl1 xl2 xl3 xl4 xl5 xl6 xl7 → AW G p l e R s m args below meth c 9 (QM G (pI post) args s below n0 s0) 56 [(0, .ref (G.1 + al0)), (1, .int xl1), (2, .int xl2), (3, .int xl3), (4, .int xl4), (5, .int xl5), (6, .int xl6), (7, .int xl7)] [] h) {h : AH} {al0 : Nat} {xl1 : Int32} {xl2 : Int32} {xl3 : Int32} {xl4 : Int32} {xl5 : Int32} {xl6 : Int32} {xl7 : Int32} {xl8 : Int32}  (hw : wb_X12_breaks_109 K22 K42 K56 h al0 xl1 xl2 xl3 xl4 xl5 xl6 xl7 xl8 post) : AW G p l e R s m args below meth c 9 (QM G (pI post) args s below n0 s0) 109 [(0, .ref (G.1 + al0)), (1, .int xl1), (2, .int xl2), (3, .int xl3), (4, .int xl4), (5, .int xl5), (6, .int xl6), (7, .int xl7), (8, .int xl8)] [] h := by
  unfold wb_X12_breaks_109 at hw
  refine r_iload C dX12_breaks_109 4 rfl ?_
  refine r_sub [0, 1, 2, 3, 5, 6, 7, 8] rfl ?_
  exact tb_X12_breaks_111 C hr hK22 hK42 hK56 hw
def wb_X12_breaks_56 (K22 : AH → Nat → Int32 → Int32 → Int32 → Prop) (K42 : AH → Nat → Int32 → Int32 → Int32 → Int32 → Int32 → Int32 → Prop) (K56 : AH → Nat → Int32 → Int32 → Int32 → Int32 → Int32 → Int32 → Int32 → Prop) (h : AH) (al0 : Nat) (xl1 : Int32) (xl2 : Int32) (xl3 : Int32) (xl4 : Int32) (xl5 : Int32) (xl6 : Int32) (xl7 : Int32)  (post : AH → Int32 → Prop) : Prop := (ob h al0 11) ∧ (∃ rv1, aP h al0 6 = some rv1 ∧ ((ob h rv1 13) ∧ ((vp_in 0 (aL h rv1)) ∧ (((aI h rv1 (0 : Int32).toNatClampNeg) ≤ xl7 → (∀ iv2 : Int32, iv2 = xl6 + 1 → (K42 h al0 xl1 xl2 xl3 xl4 xl5 iv2))) ∧ (¬ (aI h rv1 (0 : Int32).toNatClampNeg) ≤ xl7 → ((ob h al0 11) ∧ (∃ rv3, aP h al0 6 = some rv3 ∧ ((ob h rv3 13) ∧ ((vp_in (((11 : Int32) + ((8 : Int32) * xl6)) + xl7) (aL h rv3)) ∧ (∀ iv4 : Int32, iv4 = aI h rv3 (((11 : Int32) + ((8 : Int32) * xl6)) + xl7).toNatClampNeg → ((ob h al0 11) ∧ wp_X12_isOn h al0 xl3 xl7 xl6 (fun hv5 iv6 => (iv6 = 0 → (wb_X12_breaks_109 K22 K42 K56 hv5 al0 xl1 xl2 xl3 xl4 xl5 xl6 xl7 iv4 post)) ∧ (¬ iv6 = 0 → ((xl4 ≤ iv4 → (wb_X12_breaks_109 K22 K42 K56 hv5 al0 xl1 xl2 xl3 xl4 xl5 xl6 xl7 iv4 post)) ∧ (¬ xl4 ≤ iv4 → (wb_X12_breaks_111 K22 K42 K56 hv5 al0 xl1 xl2 xl3 xl5 xl6 xl7 iv4 iv4 post))))))))))))))))
set_option maxRecDepth 100000 in
theorem tb_X12_breaks_56 {G : GG} {p : Program} {l : Launch} {e : Env} {R : Room} {s : State} {m : MethodId} {args : Array Value} {below : List Frame} {meth : Method} {c : Code} {n0 s0 : Nat} {post : AH → Int32 → Prop} (C : Cx G p R s m args meth c 9 cX12_breaks RX12 n0 s0 2 48) (hr : meth.sig.returnType = (some .int)) {K22 : AH → Nat → Int32 → Int32 → Int32 → Prop} {K42 : AH → Nat → Int32 → Int32 → Int32 → Int32 → Int32 → Int32 → Prop} {K56 : AH → Nat → Int32 → Int32 → Int32 → Int32 → Int32 → Int32 → Int32 → Prop} (hK22 : ∀ (h : AH) (al0 : Nat) (xl1 : Int32) (xl2 : Int32) (xl3 : Int32), K22 h al0 xl1 xl2 xl3 → AW G p l e R s m args below meth c 9 (QM G (pI post) args s below n0 s0) 22 [(0, .ref (G.1 + al0)), (1, .int xl1), (2, .int xl2), (3, .int xl3)] [] h) (hK42 : ∀ (h : AH) (al0 : Nat) (xl1 : Int32) (xl2 : Int32) (xl3 : Int32) (xl4 : Int32) (xl5 : Int32) (xl6 : Int32), K42 h al0 xl1 xl2 xl3 xl4 xl5 xl6 → AW G p l e R s m args below meth c 9 (QM G (pI post) args s below n0 s0) 42 [(0, .ref (G.1 + al0)), (1, .int xl1), (2, .int xl2), (3, .int xl3), (4, .int xl4), (5, .int xl5), (6, .int xl6)] [] h) (hK56 : ∀ (h : AH) (al0 : Nat) (xl1 : Int32) (xl2 : Int32) (xl3 : Int32) (xl4 : Int32) (xl5 : Int32) (xl6 : Int32) (xl7 : Int32), K56 h al0 xl1 xl2 xl3 xl4 xl5 xl6 xl7 → AW G p l e R s m args below meth c 9 (QM G (pI post) args s below n0 s0) 56 [(0, .ref (G.1 + al0)), (1, .int xl1), (2, .int xl2), (3, .int xl3), (4, .int xl4), (5, .int xl5), (6, .int xl6), (7, .int xl7)] [] h) {h : AH} {al0 : Nat} {xl1 : Int32} {xl2 : Int32} {xl3 : Int32} {xl4 : Int32} {xl5 : Int32} {xl6 : Int32} {xl7 : Int32}  (hw : wb_X12_breaks_56 K22 K42 K56 h al0 xl1 xl2 xl3 xl4 xl5 xl6 xl7 post) : AW G p l e R s m args below meth c 9 (QM G (pI post) args s below n0 s0) 56 [(0, .ref (G.1 + al0)), (1, .int xl1), (2, .int xl2), (3, .int xl3), (4, .int xl4), (5, .int xl5), (6, .int xl6), (7, .int xl7)] [] h := by
  unfold wb_X12_breaks_56 at hw
  refine r_iload C dX12_breaks_56 7 rfl ?_
  refine r_aload_n C dX12_breaks_58 0 rfl ?_
  have hob := hw.1
  obtain ⟨rv1, hp, hw⟩ := hw.2
  refine r_getP C fl_RX12_33_11 hob hp (fun _ _ _ => rfl) dX12_breaks_59 ?_
  refine r_iconst (v := 0) C dX12_breaks_62 (by decide) ?_
  refine r_iaload C hw.1 hw.2.1 dX12_breaks_63 ?_
  replace hw := hw.2.2
  refine r_icmp_ge C dX12_breaks_64 147 (by decide) (fun hc => ?_) (fun hc => ?_)
  · replace hw := hw.1 hc
    obtain ⟨iv2, eiv2⟩ : ∃ q : Int32, q = xl6 + 1 := ⟨_, rfl⟩
    replace hw := hw iv2 eiv2
    refine r_iinc C dX12_breaks_147 6 rfl (by rw [eiv2]; rfl) [(6, .int iv2), (0, .ref (G.1 + al0)), (1, .int xl1), (2, .int xl2), (3, .int xl3), (4, .int xl4), (5, .int xl5), (7, .int xl7)] (by decide) rfl ?_
    refine r_goto C dX12_breaks_150 42 (by decide) ?_
    refine r_sub [1, 2, 3, 4, 5, 6, 0] rfl ?_
    exact hK42 _ _ _ _ _ _ _ _ hw
  · replace hw := hw.2 hc
    refine r_aload_n C dX12_breaks_67 0 rfl ?_
    have hob := hw.1
    obtain ⟨rv3, hp, hw⟩ := hw.2
    refine r_getP C fl_RX12_33_11 hob hp (fun _ _ _ => rfl) dX12_breaks_68 ?_
    refine r_bipush (v := 11) C dX12_breaks_71 (by decide) ?_
    refine r_bipush (v := 8) C dX12_breaks_73 (by decide) ?_
    refine r_iload C dX12_breaks_75 6 rfl ?_
    refine r_imul C dX12_breaks_77 ?_
    refine r_iadd C dX12_breaks_78 ?_
    refine r_iload C dX12_breaks_79 7 rfl ?_
    refine r_iadd C dX12_breaks_81 ?_
    refine r_iaload C hw.1 hw.2.1 dX12_breaks_82 ?_
    replace hw := hw.2.2
    refine r_topi fun iv4 eiv4 => ?_
    replace hw := hw iv4 eiv4
    refine r_istore C dX12_breaks_83 [(8, .int iv4), (0, .ref (G.1 + al0)), (1, .int xl1), (2, .int xl2), (3, .int xl3), (4, .int xl4), (5, .int xl5), (6, .int xl6), (7, .int xl7)] (by decide) rfl ?_
    refine r_aload_n C dX12_breaks_85 1 rfl ?_
    refine r_iload_n C dX12_breaks_86 4 rfl ?_
    refine r_iload C dX12_breaks_87 8 rfl ?_
    refine r_iload C dX12_breaks_89 7 rfl ?_
    have hob := hw.1
    replace hw := hw.2
    refine r_callV C (As := [.int xl3, .int xl7, .int xl6]) (rest := []) (c_X12_isOn G h al0 xl3 xl7 xl6 _ hw) yl_X12_isOn (gm8 (List.mem_of_getElem? (i := 65) rfl) rfl) (gm8 (List.mem_of_getElem? (i := 67) rfl) rfl) (ci := 11) rfl (by decide) (gsel (List.mem_of_getElem? (i := 71) rfl)) hob (by decide) rfl (Nat.le_of_ble_eq_true rfl) dX12_breaks_91 rfl (kI fun hv5 iv6 hw => ?_)
    refine r_if_eq C dX12_breaks_94 109 (by decide) (fun hc => ?_) (fun hc => ?_)
    · replace hw := hw.1 hc
      refine r_sub [1, 2, 3, 4, 5, 6, 7, 8, 0] rfl ?_
      exact tb_X12_breaks_109 C hr hK22 hK42 hK56 hw
    · replace hw := hw.2 hc
      refine r_iload C dX12_breaks_97 0 rfl ?_
      refine r_iload C dX12_breaks_99 5 rfl ?_
      refine r_icmp_ge C dX12_breaks_101 109 (by decide) (fun hc => ?_) (fun hc => ?_)
      · replace hw := hw.1 hc
        refine r_sub [1, 2, 3, 4, 5, 6, 7, 8, 0] rfl ?_
        exact tb_X12_breaks_109 C hr hK22 hK42 hK56 hw
      · replace hw := hw.2 hc
        refine r_iload C dX12_breaks_104 0 rfl ?_
        refine r_goto C dX12_breaks_106 111 (by decide) ?_
        refine r_sub [1, 2, 3, 4, 6, 7, 8, 0] rfl ?_
        exact tb_X12_breaks_111 C hr hK22 hK42 hK56 hw
def wl_X12_breaks_56 (K22 : AH → Nat → Int32 → Int32 → Int32 → Prop) (K42 : AH → Nat → Int32 → Int32 → Int32 → Int32 → Int32 → Int32 → Prop) (post : AH → Int32 → Prop) : Nat → AH → Nat → Int32 → Int32 → Int32 → Int32 → Int32 → Int32 → Int32 → Prop
  | 0 => fun _ _ _ _ _ _ _ _ _ => False
  | n + 1 => fun h al0 xl1 xl2 xl3 xl4 xl5 xl6 xl7 => wb_X12_breaks_56 K22 K42 (wl_X12_breaks_56 K22 K42 post n) h al0 xl1 xl2 xl3 xl4 xl5 xl6 xl7 post
theorem tl_X12_breaks_56 {G : GG} {p : Program} {l : Launch} {e : Env} {R : Room} {s : State} {m : MethodId} {args : Array Value} {below : List Frame} {meth : Method} {c : Code} {n0 s0 : Nat} {post : AH → Int32 → Prop} (C : Cx G p R s m args meth c 9 cX12_breaks RX12 n0 s0 2 48) (hr : meth.sig.returnType = (some .int)) {K22 : AH → Nat → Int32 → Int32 → Int32 → Prop} {K42 : AH → Nat → Int32 → Int32 → Int32 → Int32 → Int32 → Int32 → Prop} (hK22 : ∀ (h : AH) (al0 : Nat) (xl1 : Int32) (xl2 : Int32) (xl3 : Int32), K22 h al0 xl1 xl2 xl3 → AW G p l e R s m args below meth c 9 (QM G (pI post) args s below n0 s0) 22 [(0, .ref (G.1 + al0)), (1, .int xl1), (2, .int xl2), (3, .int xl3)] [] h) (hK42 : ∀ (h : AH) (al0 : Nat) (xl1 : Int32) (xl2 : Int32) (xl3 : Int32) (xl4 : Int32) (xl5 : Int32) (xl6 : Int32), K42 h al0 xl1 xl2 xl3 xl4 xl5 xl6 → AW G p l e R s m args below meth c 9 (QM G (pI post) args s below n0 s0) 42 [(0, .ref (G.1 + al0)), (1, .int xl1), (2, .int xl2), (3, .int xl3), (4, .int xl4), (5, .int xl5), (6, .int xl6)] [] h) : ∀ (n : Nat) (h : AH) (al0 : Nat) (xl1 : Int32) (xl2 : Int32) (xl3 : Int32) (xl4 : Int32) (xl5 : Int32) (xl6 : Int32) (xl7 : Int32), wl_X12_breaks_56 K22 K42 post n h al0 xl1 xl2 xl3 xl4 xl5 xl6 xl7 → AW G p l e R s m args below meth c 9 (QM G (pI post) args s below n0 s0) 56 [(0, .ref (G.1 + al0)), (1, .int xl1), (2, .int xl2), (3, .int xl3), (4, .int xl4), (5, .int xl5), (6, .int xl6), (7, .int xl7)] [] h := by
  intro n
  induction n with
  | zero => intro h al0 xl1 xl2 xl3 xl4 xl5 xl6 xl7 hw; exact hw.elim
  | succ n ih => intro h al0 xl1 xl2 xl3 xl4 xl5 xl6 xl7 hw; exact tb_X12_breaks_56 C hr hK22 hK42 ih hw
def wb_X12_breaks_42 (K22 : AH → Nat → Int32 → Int32 → Int32 → Prop) (K42 : AH → Nat → Int32 → Int32 → Int32 → Int32 → Int32 → Int32 → Prop) (h : AH) (al0 : Nat) (xl1 : Int32) (xl2 : Int32) (xl3 : Int32) (xl4 : Int32) (xl5 : Int32) (xl6 : Int32)  (post : AH → Int32 → Prop) : Prop := (ob h al0 11) ∧ (∃ rv1, aP h al0 6 = some rv1 ∧ ((ob h rv1 13) ∧ ((vp_in 1 (aL h rv1)) ∧ (((aI h rv1 (1 : Int32).toNatClampNeg) ≤ xl6 → (((xl5 - xl4) ≤ 1 → (wb_X12_breaks_178 K22 h al0 xl1 xl3 xl2 post)) ∧ (¬ (xl5 - xl4) ≤ 1 → ((ob h al0 11) ∧ wp_X12_doesFloat h al0 xl3 xl1 (fun hv2 iv3 => (¬ iv3 = 0 → (wb_X12_breaks_178 K22 hv2 al0 xl1 xl3 xl2 post)) ∧ (iv3 = 0 → (wb_X12_breaks_179 K22 hv2 al0 xl1 xl3 ((1 : Int32) <<< (xl3 &&& 31)) xl2 post))))))) ∧ (¬ (aI h rv1 (1 : Int32).toNatClampNeg) ≤ xl6 → (∃ n, wl_X12_breaks_56 K22 K42 post n h al0 xl1 xl2 xl3 xl4 xl5 xl6 0))))))
set_option maxRecDepth 100000 in
theorem tb_X12_breaks_42 {G : GG} {p : Program} {l : Launch} {e : Env} {R : Room} {s : State} {m : MethodId} {args : Array Value} {below : List Frame} {meth : Method} {c : Code} {n0 s0 : Nat} {post : AH → Int32 → Prop} (C : Cx G p R s m args meth c 9 cX12_breaks RX12 n0 s0 2 48) (hr : meth.sig.returnType = (some .int)) {K22 : AH → Nat → Int32 → Int32 → Int32 → Prop} {K42 : AH → Nat → Int32 → Int32 → Int32 → Int32 → Int32 → Int32 → Prop} (hK22 : ∀ (h : AH) (al0 : Nat) (xl1 : Int32) (xl2 : Int32) (xl3 : Int32), K22 h al0 xl1 xl2 xl3 → AW G p l e R s m args below meth c 9 (QM G (pI post) args s below n0 s0) 22 [(0, .ref (G.1 + al0)), (1, .int xl1), (2, .int xl2), (3, .int xl3)] [] h) (hK42 : ∀ (h : AH) (al0 : Nat) (xl1 : Int32) (xl2 : Int32) (xl3 : Int32) (xl4 : Int32) (xl5 : Int32) (xl6 : Int32), K42 h al0 xl1 xl2 xl3 xl4 xl5 xl6 → AW G p l e R s m args below meth c 9 (QM G (pI post) args s below n0 s0) 42 [(0, .ref (G.1 + al0)), (1, .int xl1), (2, .int xl2), (3, .int xl3), (4, .int xl4), (5, .int xl5), (6, .int xl6)] [] h) {h : AH} {al0 : Nat} {xl1 : Int32} {xl2 : Int32} {xl3 : Int32} {xl4 : Int32} {xl5 : Int32} {xl6 : Int32}  (hw : wb_X12_breaks_42 K22 K42 h al0 xl1 xl2 xl3 xl4 xl5 xl6 post) : AW G p l e R s m args below meth c 9 (QM G (pI post) args s below n0 s0) 42 [(0, .ref (G.1 + al0)), (1, .int xl1), (2, .int xl2), (3, .int xl3), (4, .int xl4), (5, .int xl5), (6, .int xl6)] [] h := by
  unfold wb_X12_breaks_42 at hw
  refine r_iload C dX12_breaks_42 6 rfl ?_
  refine r_aload_n C dX12_breaks_44 0 rfl ?_
  have hob := hw.1
  obtain ⟨rv1, hp, hw⟩ := hw.2
  refine r_getP C fl_RX12_33_11 hob hp (fun _ _ _ => rfl) dX12_breaks_45 ?_
  refine r_iconst (v := 1) C dX12_breaks_48 (by decide) ?_
  refine r_iaload C hw.1 hw.2.1 dX12_breaks_49 ?_
  replace hw := hw.2.2
  refine r_icmp_ge C dX12_breaks_50 153 (by decide) (fun hc => ?_) (fun hc => ?_)
  · replace hw := hw.1 hc
    refine r_iload_n C dX12_breaks_153 2 rfl ?_
    refine r_iload C dX12_breaks_154 5 rfl ?_
    refine r_iload C dX12_breaks_156 4 rfl ?_
    refine r_isub C dX12_breaks_158 ?_
    refine r_iconst (v := 1) C dX12_breaks_159 (by decide) ?_
    refine r_icmp_le C dX12_breaks_160 178 (by decide) (fun hc => ?_) (fun hc => ?_)
    · replace hw := hw.1 hc
      refine r_sub [0, 1, 3] rfl ?_
      exact tb_X12_breaks_178 C hr hK22 hw
    · replace hw := hw.2 hc
      refine r_aload_n C dX12_breaks_163 0 rfl ?_
      refine r_iload_n C dX12_breaks_164 3 rfl ?_
      refine r_iload_n C dX12_breaks_165 1 rfl ?_
      have hob := hw.1
      replace hw := hw.2
      refine r_callV C (As := [.int xl3, .int xl1]) (rest := [.int xl2]) (c_X12_doesFloat G h al0 xl3 xl1 _ hw) yl_X12_doesFloat (gm8 (List.mem_of_getElem? (i := 101) rfl) rfl) (gm8 (List.mem_of_getElem? (i := 103) rfl) rfl) (ci := 11) rfl (by decide) (gsel (List.mem_of_getElem? (i := 78) rfl)) hob (by decide) rfl (Nat.le_of_ble_eq_true rfl) dX12_breaks_166 rfl (kI fun hv2 iv3 hw => ?_)
      refine r_if_ne C dX12_breaks_169 178 (by decide) (fun hc => ?_) (fun hc => ?_)
      · replace hw := hw.1 hc
        refine r_sub [0, 1, 3] rfl ?_
        exact tb_X12_breaks_178 C hr hK22 hw
      · replace hw := hw.2 hc
        refine r_iconst (v := 1) C dX12_breaks_172 (by decide) ?_
        refine r_iload_n C dX12_breaks_173 3 rfl ?_
        refine r_ishl C dX12_breaks_174 ?_
        refine r_goto C dX12_breaks_175 179 (by decide) ?_
        refine r_sub [0, 1, 3] rfl ?_
        exact tb_X12_breaks_179 C hr hK22 hw
  · replace hw := hw.2 hc
    refine r_iconst (v := 0) C dX12_breaks_53 (by decide) ?_
    refine r_istore C dX12_breaks_54 [(7, .int 0), (0, .ref (G.1 + al0)), (1, .int xl1), (2, .int xl2), (3, .int xl3), (4, .int xl4), (5, .int xl5), (6, .int xl6)] (by decide) rfl ?_
    refine r_sub [1, 2, 3, 4, 5, 6, 7, 0] rfl ?_
    obtain ⟨n, hw⟩ := hw
    exact tl_X12_breaks_56 C hr hK22 hK42 n _ _ _ _ _ _ _ _ _ hw
def wl_X12_breaks_42 (K22 : AH → Nat → Int32 → Int32 → Int32 → Prop) (post : AH → Int32 → Prop) : Nat → AH → Nat → Int32 → Int32 → Int32 → Int32 → Int32 → Int32 → Prop
  | 0 => fun _ _ _ _ _ _ _ _ => False
  | n + 1 => fun h al0 xl1 xl2 xl3 xl4 xl5 xl6 => wb_X12_breaks_42 K22 (wl_X12_breaks_42 K22 post n) h al0 xl1 xl2 xl3 xl4 xl5 xl6 post
theorem tl_X12_breaks_42 {G : GG} {p : Program} {l : Launch} {e : Env} {R : Room} {s : State} {m : MethodId} {args : Array Value} {below : List Frame} {meth : Method} {c : Code} {n0 s0 : Nat} {post : AH → Int32 → Prop} (C : Cx G p R s m args meth c 9 cX12_breaks RX12 n0 s0 2 48) (hr : meth.sig.returnType = (some .int)) {K22 : AH → Nat → Int32 → Int32 → Int32 → Prop} (hK22 : ∀ (h : AH) (al0 : Nat) (xl1 : Int32) (xl2 : Int32) (xl3 : Int32), K22 h al0 xl1 xl2 xl3 → AW G p l e R s m args below meth c 9 (QM G (pI post) args s below n0 s0) 22 [(0, .ref (G.1 + al0)), (1, .int xl1), (2, .int xl2), (3, .int xl3)] [] h) : ∀ (n : Nat) (h : AH) (al0 : Nat) (xl1 : Int32) (xl2 : Int32) (xl3 : Int32) (xl4 : Int32) (xl5 : Int32) (xl6 : Int32), wl_X12_breaks_42 K22 post n h al0 xl1 xl2 xl3 xl4 xl5 xl6 → AW G p l e R s m args below meth c 9 (QM G (pI post) args s below n0 s0) 42 [(0, .ref (G.1 + al0)), (1, .int xl1), (2, .int xl2), (3, .int xl3), (4, .int xl4), (5, .int xl5), (6, .int xl6)] [] h := by
  intro n
  induction n with
  | zero => intro h al0 xl1 xl2 xl3 xl4 xl5 xl6 hw; exact hw.elim
  | succ n ih => intro h al0 xl1 xl2 xl3 xl4 xl5 xl6 hw; exact tb_X12_breaks_42 C hr hK22 ih hw
def wb_X12_breaks_22 (K22 : AH → Nat → Int32 → Int32 → Int32 → Prop) (h : AH) (al0 : Nat) (xl1 : Int32) (xl2 : Int32) (xl3 : Int32)  (post : AH → Int32 → Prop) : Prop := (ob h al0 11) ∧ (∃ rv1, aP h al0 6 = some rv1 ∧ ((ob h rv1 13) ∧ ((vp_in 2 (aL h rv1)) ∧ (((aI h rv1 (2 : Int32).toNatClampNeg) ≤ xl3 → (post h xl2)) ∧ (¬ (aI h rv1 (2 : Int32).toNatClampNeg) ≤ xl3 → (∃ n, wl_X12_breaks_42 K22 post n h al0 xl1 xl2 xl3 9 0 0))))))
set_option maxRecDepth 100000 in
theorem tb_X12_breaks_22 {G : GG} {p : Program} {l : Launch} {e : Env} {R : Room} {s : State} {m : MethodId} {args : Array Value} {below : List Frame} {meth : Method} {c : Code} {n0 s0 : Nat} {post : AH → Int32 → Prop} (C : Cx G p R s m args meth c 9 cX12_breaks RX12 n0 s0 2 48) (hr : meth.sig.returnType = (some .int)) {K22 : AH → Nat → Int32 → Int32 → Int32 → Prop} (hK22 : ∀ (h : AH) (al0 : Nat) (xl1 : Int32) (xl2 : Int32) (xl3 : Int32), K22 h al0 xl1 xl2 xl3 → AW G p l e R s m args below meth c 9 (QM G (pI post) args s below n0 s0) 22 [(0, .ref (G.1 + al0)), (1, .int xl1), (2, .int xl2), (3, .int xl3)] [] h) {h : AH} {al0 : Nat} {xl1 : Int32} {xl2 : Int32} {xl3 : Int32}  (hw : wb_X12_breaks_22 K22 h al0 xl1 xl2 xl3 post) : AW G p l e R s m args below meth c 9 (QM G (pI post) args s below n0 s0) 22 [(0, .ref (G.1 + al0)), (1, .int xl1), (2, .int xl2), (3, .int xl3)] [] h := by
  unfold wb_X12_breaks_22 at hw
  refine r_iload_n C dX12_breaks_22 3 rfl ?_
  refine r_aload_n C dX12_breaks_23 0 rfl ?_
  have hob := hw.1
  obtain ⟨rv1, hp, hw⟩ := hw.2
  refine r_getP C fl_RX12_33_11 hob hp (fun _ _ _ => rfl) dX12_breaks_24 ?_
  refine r_iconst (v := 2) C dX12_breaks_27 (by decide) ?_
  refine r_iaload C hw.1 hw.2.1 dX12_breaks_28 ?_
  replace hw := hw.2.2
  refine r_icmp_ge C dX12_breaks_29 187 (by decide) (fun hc => ?_) (fun hc => ?_)
  · replace hw := hw.1 hc
    refine r_iload_n C dX12_breaks_187 2 rfl ?_
    exact r_iret C hr dX12_breaks_188 hw
  · replace hw := hw.2 hc
    refine r_bipush (v := 9) C dX12_breaks_32 (by decide) ?_
    refine r_istore C dX12_breaks_34 [(4, .int 9), (0, .ref (G.1 + al0)), (1, .int xl1), (2, .int xl2), (3, .int xl3)] (by decide) rfl ?_
    refine r_iconst (v := 0) C dX12_breaks_36 (by decide) ?_
    refine r_istore C dX12_breaks_37 [(5, .int 0), (4, .int 9), (0, .ref (G.1 + al0)), (1, .int xl1), (2, .int xl2), (3, .int xl3)] (by decide) rfl ?_
    refine r_iconst (v := 0) C dX12_breaks_39 (by decide) ?_
    refine r_istore C dX12_breaks_40 [(6, .int 0), (5, .int 0), (4, .int 9), (0, .ref (G.1 + al0)), (1, .int xl1), (2, .int xl2), (3, .int xl3)] (by decide) rfl ?_
    refine r_sub [3, 4, 5, 6, 2, 1, 0] rfl ?_
    obtain ⟨n, hw⟩ := hw
    exact tl_X12_breaks_42 C hr hK22 n _ _ _ _ _ _ _ _ hw
def wl_X12_breaks_22  (post : AH → Int32 → Prop) : Nat → AH → Nat → Int32 → Int32 → Int32 → Prop
  | 0 => fun _ _ _ _ _ => False
  | n + 1 => fun h al0 xl1 xl2 xl3 => wb_X12_breaks_22  (wl_X12_breaks_22  post n) h al0 xl1 xl2 xl3 post
theorem tl_X12_breaks_22 {G : GG} {p : Program} {l : Launch} {e : Env} {R : Room} {s : State} {m : MethodId} {args : Array Value} {below : List Frame} {meth : Method} {c : Code} {n0 s0 : Nat} {post : AH → Int32 → Prop} (C : Cx G p R s m args meth c 9 cX12_breaks RX12 n0 s0 2 48) (hr : meth.sig.returnType = (some .int))   : ∀ (n : Nat) (h : AH) (al0 : Nat) (xl1 : Int32) (xl2 : Int32) (xl3 : Int32), wl_X12_breaks_22  post n h al0 xl1 xl2 xl3 → AW G p l e R s m args below meth c 9 (QM G (pI post) args s below n0 s0) 22 [(0, .ref (G.1 + al0)), (1, .int xl1), (2, .int xl2), (3, .int xl3)] [] h := by
  intro n
  induction n with
  | zero => intro h al0 xl1 xl2 xl3 hw; exact hw.elim
  | succ n ih => intro h al0 xl1 xl2 xl3 hw; exact tb_X12_breaks_22 C hr  ih hw
def wp_X12_breaks (h : AH) (a0 : Nat) (x1 : Int32) (post : AH → Int32 → Prop) : Prop := (ob h a0 11) ∧ (∀ hv1 : AH, hv1 = hI h a0 0 0 → (wp_X12_isHour hv1 x1 (fun hv2 iv3 => (¬ iv3 = 0 → ((ob hv2 a0 11) ∧ wp_X12_asItIs hv2 a0  (fun hv4  => ∃ n, wl_X12_breaks_22  post n hv4 a0 x1 0 0))) ∧ (iv3 = 0 → (post hv2 (-1))))))
set_option maxRecDepth 100000 in
theorem c_X12_breaks (G : GG) (h : AH) (a0 : Nat) (x1 : Int32) (post : AH → Int32 → Prop) (hw : wp_X12_breaks h a0 x1 post) : MC G yX12_breaks cX12_breaks 9 (some .int) 2 48 h [.ref (G.1 + a0), .int x1] (pI post) := by
  refine MC.of (lv := [(0, .ref (G.1 + a0)), (1, .int x1)]) (by decide) (Nat.le_of_ble_eq_true rfl) rfl fun p l e R s m args below meth c C hr hnm => ?_
  unfold wp_X12_breaks at hw
  refine r_aload_n C dX12_breaks_0 0 rfl ?_
  refine r_iconst (v := 0) C dX12_breaks_1 (by decide) ?_
  refine r_putI C fp_RX12_1_11 hw.1 rfl dX12_breaks_2 ?_
  replace hw := hw.2
  refine r_toph fun hv1 ehv1 => ?_
  replace hw := hw hv1 ehv1
  refine r_iload_n C dX12_breaks_5 1 rfl ?_
  refine r_callS C (As := [.int x1]) (rest := []) (c_X12_isHour G hv1 x1 _ hw) yl_X12_isHour (gm8 (List.mem_of_getElem? (i := 38) rfl) rfl) (gm8 (List.mem_of_getElem? (i := 39) rfl) rfl) (by decide) rfl (Nat.le_of_ble_eq_true rfl) dX12_breaks_6 rfl (kI fun hv2 iv3 hw => ?_)
  refine r_if_ne C dX12_breaks_9 14 (by decide) (fun hc => ?_) (fun hc => ?_)
  · replace hw := hw.1 hc
    refine r_aload_n C dX12_breaks_14 0 rfl ?_
    have hob := hw.1
    replace hw := hw.2
    refine r_callV C (As := []) (rest := []) (c_X12_asItIs G hv2 a0  _ hw) yl_X12_asItIs (gm8 (List.mem_of_getElem? (i := 57) rfl) rfl) (gm8 (List.mem_of_getElem? (i := 59) rfl) rfl) (ci := 11) rfl (by decide) (gsel (List.mem_of_getElem? (i := 70) rfl)) hob (by decide) rfl (Nat.le_of_ble_eq_true rfl) dX12_breaks_15 rfl (kV fun hv4  hw => ?_)
    refine r_iconst (v := 0) C dX12_breaks_18 (by decide) ?_
    refine r_istore_n C dX12_breaks_19 [(2, .int 0), (0, .ref (G.1 + a0)), (1, .int x1)] (by decide) rfl ?_
    refine r_iconst (v := 0) C dX12_breaks_20 (by decide) ?_
    refine r_istore_n C dX12_breaks_21 [(3, .int 0), (2, .int 0), (0, .ref (G.1 + a0)), (1, .int x1)] (by decide) rfl ?_
    refine r_sub [2, 3, 1, 0] rfl ?_
    obtain ⟨n, hw⟩ := hw
    exact tl_X12_breaks_22 C hr  n _ _ _ _ _ hw
  · replace hw := hw.2 hc
    refine r_iconst (v := (-1)) C dX12_breaks_12 (by decide) ?_
    exact r_iret C hr dX12_breaks_13 hw
theorem dX12_hours_0 : decode cX12_hours 0 = .ok (.iconst 0, 1) := by decide +kernel
theorem dX12_hours_1 : decode cX12_hours 1 = .ok (.istore_n 2, 1) := by decide +kernel
theorem dX12_hours_2 : decode cX12_hours 2 = .ok (.iconst 0, 1) := by decide +kernel
theorem dX12_hours_3 : decode cX12_hours 3 = .ok (.istore_n 3, 1) := by decide +kernel
theorem dX12_hours_4 : decode cX12_hours 4 = .ok (.iload_n 3, 1) := by decide +kernel
theorem dX12_hours_5 : decode cX12_hours 5 = .ok (.bipush 24, 2) := by decide +kernel
theorem dX12_hours_7 : decode cX12_hours 7 = .ok (.if_icmp .ge 28, 3) := by decide +kernel
theorem dX12_hours_10 : decode cX12_hours 10 = .ok (.iload_n 2, 1) := by decide +kernel
theorem dX12_hours_11 : decode cX12_hours 11 = .ok (.aload_n 0, 1) := by decide +kernel
theorem dX12_hours_12 : decode cX12_hours 12 = .ok (.iload_n 1, 1) := by decide +kernel
theorem dX12_hours_13 : decode cX12_hours 13 = .ok (.iload_n 3, 1) := by decide +kernel
theorem dX12_hours_14 : decode cX12_hours 14 = .ok (.invokevirtual 338, 3) := by decide +kernel
theorem dX12_hours_17 : decode cX12_hours 17 = .ok (.ifCond .eq 9, 3) := by decide +kernel
theorem dX12_hours_20 : decode cX12_hours 20 = .ok (.iconst 1, 1) := by decide +kernel
theorem dX12_hours_21 : decode cX12_hours 21 = .ok (.iload_n 3, 1) := by decide +kernel
theorem dX12_hours_22 : decode cX12_hours 22 = .ok (.ishl, 1) := by decide +kernel
theorem dX12_hours_23 : decode cX12_hours 23 = .ok (.goto 4, 3) := by decide +kernel
theorem dX12_hours_26 : decode cX12_hours 26 = .ok (.iconst 0, 1) := by decide +kernel
theorem dX12_hours_27 : decode cX12_hours 27 = .ok (.ior, 1) := by decide +kernel
theorem dX12_hours_28 : decode cX12_hours 28 = .ok (.istore_n 2, 1) := by decide +kernel
theorem dX12_hours_29 : decode cX12_hours 29 = .ok (.iinc 3 1, 3) := by decide +kernel
theorem dX12_hours_32 : decode cX12_hours 32 = .ok (.goto (-28), 3) := by decide +kernel
theorem dX12_hours_35 : decode cX12_hours 35 = .ok (.iload_n 2, 1) := by decide +kernel
theorem dX12_hours_36 : decode cX12_hours 36 = .ok (.ireturn, 1) := by decide +kernel
def wb_X12_hours_27 (K4 : AH → Nat → Int32 → Int32 → Int32 → Prop) (h : AH) (al0 : Nat) (xl1 : Int32) (xl3 : Int32) (xs0 : Int32) (xs1 : Int32) (post : AH → Int32 → Prop) : Prop := ∀ iv1 : Int32, iv1 = xs1 ||| xs0 → (∀ iv2 : Int32, iv2 = xl3 + 1 → (K4 h al0 xl1 iv1 iv2))
set_option maxRecDepth 100000 in
theorem tb_X12_hours_27 {G : GG} {p : Program} {l : Launch} {e : Env} {R : Room} {s : State} {m : MethodId} {args : Array Value} {below : List Frame} {meth : Method} {c : Code} {n0 s0 : Nat} {post : AH → Int32 → Prop} (C : Cx G p R s m args meth c 4 cX12_hours RX12 n0 s0 2 48) (hr : meth.sig.returnType = (some .int)) {K4 : AH → Nat → Int32 → Int32 → Int32 → Prop} (hK4 : ∀ (h : AH) (al0 : Nat) (xl1 : Int32) (xl2 : Int32) (xl3 : Int32), K4 h al0 xl1 xl2 xl3 → AW G p l e R s m args below meth c 4 (QM G (pI post) args s below n0 s0) 4 [(0, .ref (G.1 + al0)), (1, .int xl1), (2, .int xl2), (3, .int xl3)] [] h) {h : AH} {al0 : Nat} {xl1 : Int32} {xl3 : Int32} {xs0 : Int32} {xs1 : Int32} (hw : wb_X12_hours_27 K4 h al0 xl1 xl3 xs0 xs1 post) : AW G p l e R s m args below meth c 4 (QM G (pI post) args s below n0 s0) 27 [(0, .ref (G.1 + al0)), (1, .int xl1), (3, .int xl3)] [.int xs0, .int xs1] h := by
  unfold wb_X12_hours_27 at hw
  refine r_ior C dX12_hours_27 ?_
  refine r_topi fun iv1 eiv1 => ?_
  replace hw := hw iv1 eiv1
  refine r_istore_n C dX12_hours_28 [(2, .int iv1), (0, .ref (G.1 + al0)), (1, .int xl1), (3, .int xl3)] (by decide) rfl ?_
  obtain ⟨iv2, eiv2⟩ : ∃ q : Int32, q = xl3 + 1 := ⟨_, rfl⟩
  replace hw := hw iv2 eiv2
  refine r_iinc C dX12_hours_29 3 rfl (by rw [eiv2]; rfl) [(3, .int iv2), (2, .int iv1), (0, .ref (G.1 + al0)), (1, .int xl1)] (by decide) rfl ?_
  refine r_goto C dX12_hours_32 4 (by decide) ?_
  refine r_sub [2, 3, 1, 0] rfl ?_
  exact hK4 _ _ _ _ _ hw
def wb_X12_hours_4 (K4 : AH → Nat → Int32 → Int32 → Int32 → Prop) (h : AH) (al0 : Nat) (xl1 : Int32) (xl2 : Int32) (xl3 : Int32)  (post : AH → Int32 → Prop) : Prop := (24 ≤ xl3 → (post h xl2)) ∧ (¬ 24 ≤ xl3 → ((ob h al0 11) ∧ wp_X12_doesFloat h al0 xl1 xl3 (fun hv1 iv2 => (iv2 = 0 → (wb_X12_hours_27 K4 hv1 al0 xl1 xl3 0 xl2 post)) ∧ (¬ iv2 = 0 → (wb_X12_hours_27 K4 hv1 al0 xl1 xl3 ((1 : Int32) <<< (xl3 &&& 31)) xl2 post)))))
set_option maxRecDepth 100000 in
theorem tb_X12_hours_4 {G : GG} {p : Program} {l : Launch} {e : Env} {R : Room} {s : State} {m : MethodId} {args : Array Value} {below : List Frame} {meth : Method} {c : Code} {n0 s0 : Nat} {post : AH → Int32 → Prop} (C : Cx G p R s m args meth c 4 cX12_hours RX12 n0 s0 2 48) (hr : meth.sig.returnType = (some .int)) {K4 : AH → Nat → Int32 → Int32 → Int32 → Prop} (hK4 : ∀ (h : AH) (al0 : Nat) (xl1 : Int32) (xl2 : Int32) (xl3 : Int32), K4 h al0 xl1 xl2 xl3 → AW G p l e R s m args below meth c 4 (QM G (pI post) args s below n0 s0) 4 [(0, .ref (G.1 + al0)), (1, .int xl1), (2, .int xl2), (3, .int xl3)] [] h) {h : AH} {al0 : Nat} {xl1 : Int32} {xl2 : Int32} {xl3 : Int32}  (hw : wb_X12_hours_4 K4 h al0 xl1 xl2 xl3 post) : AW G p l e R s m args below meth c 4 (QM G (pI post) args s below n0 s0) 4 [(0, .ref (G.1 + al0)), (1, .int xl1), (2, .int xl2), (3, .int xl3)] [] h := by
  unfold wb_X12_hours_4 at hw
  refine r_iload_n C dX12_hours_4 3 rfl ?_
  refine r_bipush (v := 24) C dX12_hours_5 (by decide) ?_
  refine r_icmp_ge C dX12_hours_7 35 (by decide) (fun hc => ?_) (fun hc => ?_)
  · replace hw := hw.1 hc
    refine r_iload_n C dX12_hours_35 2 rfl ?_
    exact r_iret C hr dX12_hours_36 hw
  · replace hw := hw.2 hc
    refine r_iload_n C dX12_hours_10 2 rfl ?_
    refine r_aload_n C dX12_hours_11 0 rfl ?_
    refine r_iload_n C dX12_hours_12 1 rfl ?_
    refine r_iload_n C dX12_hours_13 3 rfl ?_
    have hob := hw.1
    replace hw := hw.2
    refine r_callV C (As := [.int xl1, .int xl3]) (rest := [.int xl2]) (c_X12_doesFloat G h al0 xl1 xl3 _ hw) yl_X12_doesFloat (gm8 (List.mem_of_getElem? (i := 101) rfl) rfl) (gm8 (List.mem_of_getElem? (i := 103) rfl) rfl) (ci := 11) rfl (by decide) (gsel (List.mem_of_getElem? (i := 78) rfl)) hob (by decide) rfl (Nat.le_of_ble_eq_true rfl) dX12_hours_14 rfl (kI fun hv1 iv2 hw => ?_)
    refine r_if_eq C dX12_hours_17 26 (by decide) (fun hc => ?_) (fun hc => ?_)
    · replace hw := hw.1 hc
      refine r_iconst (v := 0) C dX12_hours_26 (by decide) ?_
      refine r_sub [0, 1, 3] rfl ?_
      exact tb_X12_hours_27 C hr hK4 hw
    · replace hw := hw.2 hc
      refine r_iconst (v := 1) C dX12_hours_20 (by decide) ?_
      refine r_iload_n C dX12_hours_21 3 rfl ?_
      refine r_ishl C dX12_hours_22 ?_
      refine r_goto C dX12_hours_23 27 (by decide) ?_
      refine r_sub [0, 1, 3] rfl ?_
      exact tb_X12_hours_27 C hr hK4 hw
def wl_X12_hours_4  (post : AH → Int32 → Prop) : Nat → AH → Nat → Int32 → Int32 → Int32 → Prop
  | 0 => fun _ _ _ _ _ => False
  | n + 1 => fun h al0 xl1 xl2 xl3 => wb_X12_hours_4  (wl_X12_hours_4  post n) h al0 xl1 xl2 xl3 post
theorem tl_X12_hours_4 {G : GG} {p : Program} {l : Launch} {e : Env} {R : Room} {s : State} {m : MethodId} {args : Array Value} {below : List Frame} {meth : Method} {c : Code} {n0 s0 : Nat} {post : AH → Int32 → Prop} (C : Cx G p R s m args meth c 4 cX12_hours RX12 n0 s0 2 48) (hr : meth.sig.returnType = (some .int))   : ∀ (n : Nat) (h : AH) (al0 : Nat) (xl1 : Int32) (xl2 : Int32) (xl3 : Int32), wl_X12_hours_4  post n h al0 xl1 xl2 xl3 → AW G p l e R s m args below meth c 4 (QM G (pI post) args s below n0 s0) 4 [(0, .ref (G.1 + al0)), (1, .int xl1), (2, .int xl2), (3, .int xl3)] [] h := by
  intro n
  induction n with
  | zero => intro h al0 xl1 xl2 xl3 hw; exact hw.elim
  | succ n ih => intro h al0 xl1 xl2 xl3 hw; exact tb_X12_hours_4 C hr  ih hw
def wp_X12_hours (h : AH) (a0 : Nat) (x1 : Int32) (post : AH → Int32 → Prop) : Prop := ∃ n, wl_X12_hours_4  post n h a0 x1 0 0
set_option maxRecDepth 100000 in
theorem c_X12_hours (G : GG) (h : AH) (a0 : Nat) (x1 : Int32) (post : AH → Int32 → Prop) (hw : wp_X12_hours h a0 x1 post) : MC G yX12_hours cX12_hours 4 (some .int) 2 48 h [.ref (G.1 + a0), .int x1] (pI post) := by
  refine MC.of (lv := [(0, .ref (G.1 + a0)), (1, .int x1)]) (by decide) (Nat.le_of_ble_eq_true rfl) rfl fun p l e R s m args below meth c C hr hnm => ?_
  unfold wp_X12_hours at hw
  refine r_iconst (v := 0) C dX12_hours_0 (by decide) ?_
  refine r_istore_n C dX12_hours_1 [(2, .int 0), (0, .ref (G.1 + a0)), (1, .int x1)] (by decide) rfl ?_
  refine r_iconst (v := 0) C dX12_hours_2 (by decide) ?_
  refine r_istore_n C dX12_hours_3 [(3, .int 0), (2, .int 0), (0, .ref (G.1 + a0)), (1, .int x1)] (by decide) rfl ?_
  refine r_sub [2, 3, 1, 0] rfl ?_
  obtain ⟨n, hw⟩ := hw
  exact tl_X12_hours_4 C hr  n _ _ _ _ _ hw
theorem dX12_floats_0 : decode cX12_floats 0 = .ok (.aload_n 0, 1) := by decide +kernel
theorem dX12_floats_1 : decode cX12_floats 1 = .ok (.iconst 0, 1) := by decide +kernel
theorem dX12_floats_2 : decode cX12_floats 2 = .ok (.putfield 1, 3) := by decide +kernel
theorem dX12_floats_5 : decode cX12_floats 5 = .ok (.aload_n 0, 1) := by decide +kernel
theorem dX12_floats_6 : decode cX12_floats 6 = .ok (.iload_n 1, 1) := by decide +kernel
theorem dX12_floats_7 : decode cX12_floats 7 = .ok (.invokevirtual 310, 3) := by decide +kernel
theorem dX12_floats_10 : decode cX12_floats 10 = .ok (.ifCond .ne 5, 3) := by decide +kernel
theorem dX12_floats_13 : decode cX12_floats 13 = .ok (.iconst (-1), 1) := by decide +kernel
theorem dX12_floats_14 : decode cX12_floats 14 = .ok (.ireturn, 1) := by decide +kernel
theorem dX12_floats_15 : decode cX12_floats 15 = .ok (.aload_n 0, 1) := by decide +kernel
theorem dX12_floats_16 : decode cX12_floats 16 = .ok (.invokevirtual 317, 3) := by decide +kernel
theorem dX12_floats_19 : decode cX12_floats 19 = .ok (.aload_n 0, 1) := by decide +kernel
theorem dX12_floats_20 : decode cX12_floats 20 = .ok (.iload_n 1, 1) := by decide +kernel
theorem dX12_floats_21 : decode cX12_floats 21 = .ok (.invokevirtual 341, 3) := by decide +kernel
theorem dX12_floats_24 : decode cX12_floats 24 = .ok (.ireturn, 1) := by decide +kernel
def wp_X12_floats (h : AH) (a0 : Nat) (x1 : Int32) (post : AH → Int32 → Prop) : Prop := (ob h a0 11) ∧ (∀ hv1 : AH, hv1 = hI h a0 0 0 → ((ob hv1 a0 11) ∧ wp_X12_isRaft hv1 a0 x1 (fun hv2 iv3 => (¬ iv3 = 0 → ((ob hv2 a0 11) ∧ wp_X12_asItIs hv2 a0  (fun hv4  => (ob hv4 a0 11) ∧ wp_X12_hours hv4 a0 x1 (fun hv5 iv6 => post hv5 iv6)))) ∧ (iv3 = 0 → (post hv2 (-1))))))
set_option maxRecDepth 100000 in
theorem c_X12_floats (G : GG) (h : AH) (a0 : Nat) (x1 : Int32) (post : AH → Int32 → Prop) (hw : wp_X12_floats h a0 x1 post) : MC G yX12_floats cX12_floats 2 (some .int) 3 71 h [.ref (G.1 + a0), .int x1] (pI post) := by
  refine MC.of (lv := [(0, .ref (G.1 + a0)), (1, .int x1)]) (by decide) (Nat.le_of_ble_eq_true rfl) rfl fun p l e R s m args below meth c C hr hnm => ?_
  unfold wp_X12_floats at hw
  refine r_aload_n C dX12_floats_0 0 rfl ?_
  refine r_iconst (v := 0) C dX12_floats_1 (by decide) ?_
  refine r_putI C fp_RX12_1_11 hw.1 rfl dX12_floats_2 ?_
  replace hw := hw.2
  refine r_toph fun hv1 ehv1 => ?_
  replace hw := hw hv1 ehv1
  refine r_aload_n C dX12_floats_5 0 rfl ?_
  refine r_iload_n C dX12_floats_6 1 rfl ?_
  have hob := hw.1
  replace hw := hw.2
  refine r_callV C (As := [.int x1]) (rest := []) (c_X12_isRaft G hv1 a0 x1 _ hw) yl_X12_isRaft (gm8 (List.mem_of_getElem? (i := 49) rfl) rfl) (gm8 (List.mem_of_getElem? (i := 51) rfl) rfl) (ci := 11) rfl (by decide) (gsel (List.mem_of_getElem? (i := 68) rfl)) hob (by decide) rfl (Nat.le_of_ble_eq_true rfl) dX12_floats_7 rfl (kI fun hv2 iv3 hw => ?_)
  refine r_if_ne C dX12_floats_10 15 (by decide) (fun hc => ?_) (fun hc => ?_)
  · replace hw := hw.1 hc
    refine r_aload_n C dX12_floats_15 0 rfl ?_
    have hob := hw.1
    replace hw := hw.2
    refine r_callV C (As := []) (rest := []) (c_X12_asItIs G hv2 a0  _ hw) yl_X12_asItIs (gm8 (List.mem_of_getElem? (i := 57) rfl) rfl) (gm8 (List.mem_of_getElem? (i := 59) rfl) rfl) (ci := 11) rfl (by decide) (gsel (List.mem_of_getElem? (i := 70) rfl)) hob (by decide) rfl (Nat.le_of_ble_eq_true rfl) dX12_floats_16 rfl (kV fun hv4  hw => ?_)
    refine r_aload_n C dX12_floats_19 0 rfl ?_
    refine r_iload_n C dX12_floats_20 1 rfl ?_
    have hob := hw.1
    replace hw := hw.2
    refine r_callV C (As := [.int x1]) (rest := []) (c_X12_hours G hv4 a0 x1 _ hw) yl_X12_hours (gm8 (List.mem_of_getElem? (i := 113) rfl) rfl) (gm8 (List.mem_of_getElem? (i := 115) rfl) rfl) (ci := 11) rfl (by decide) (gsel (List.mem_of_getElem? (i := 79) rfl)) hob (by decide) rfl (Nat.le_of_ble_eq_true rfl) dX12_floats_21 rfl (kI fun hv5 iv6 hw => ?_)
    exact r_iret C hr dX12_floats_24 hw
  · replace hw := hw.2 hc
    refine r_iconst (v := (-1)) C dX12_floats_13 (by decide) ?_
    exact r_iret C hr dX12_floats_14 hw
theorem dX12_gap_0 : decode cX12_gap 0 = .ok (.aload_n 0, 1) := by decide +kernel
theorem dX12_gap_1 : decode cX12_gap 1 = .ok (.iconst 0, 1) := by decide +kernel
theorem dX12_gap_2 : decode cX12_gap 2 = .ok (.putfield 1, 3) := by decide +kernel
theorem dX12_gap_5 : decode cX12_gap 5 = .ok (.aload_n 0, 1) := by decide +kernel
theorem dX12_gap_6 : decode cX12_gap 6 = .ok (.iload_n 1, 1) := by decide +kernel
theorem dX12_gap_7 : decode cX12_gap 7 = .ok (.invokevirtual 310, 3) := by decide +kernel
theorem dX12_gap_10 : decode cX12_gap 10 = .ok (.ifCond .eq 16, 3) := by decide +kernel
theorem dX12_gap_13 : decode cX12_gap 13 = .ok (.aload_n 0, 1) := by decide +kernel
theorem dX12_gap_14 : decode cX12_gap 14 = .ok (.iload_n 2, 1) := by decide +kernel
theorem dX12_gap_15 : decode cX12_gap 15 = .ok (.invokevirtual 310, 3) := by decide +kernel
theorem dX12_gap_18 : decode cX12_gap 18 = .ok (.ifCond .eq 8, 3) := by decide +kernel
theorem dX12_gap_21 : decode cX12_gap 21 = .ok (.iload_n 1, 1) := by decide +kernel
theorem dX12_gap_22 : decode cX12_gap 22 = .ok (.iload_n 2, 1) := by decide +kernel
theorem dX12_gap_23 : decode cX12_gap 23 = .ok (.if_icmp .ne 5, 3) := by decide +kernel
theorem dX12_gap_26 : decode cX12_gap 26 = .ok (.iconst (-1), 1) := by decide +kernel
theorem dX12_gap_27 : decode cX12_gap 27 = .ok (.ireturn, 1) := by decide +kernel
theorem dX12_gap_28 : decode cX12_gap 28 = .ok (.aload_n 0, 1) := by decide +kernel
theorem dX12_gap_29 : decode cX12_gap 29 = .ok (.invokevirtual 317, 3) := by decide +kernel
theorem dX12_gap_32 : decode cX12_gap 32 = .ok (.aload_n 0, 1) := by decide +kernel
theorem dX12_gap_33 : decode cX12_gap 33 = .ok (.iload_n 1, 1) := by decide +kernel
theorem dX12_gap_34 : decode cX12_gap 34 = .ok (.iload_n 2, 1) := by decide +kernel
theorem dX12_gap_35 : decode cX12_gap 35 = .ok (.invokevirtual 262, 3) := by decide +kernel
theorem dX12_gap_38 : decode cX12_gap 38 = .ok (.ireturn, 1) := by decide +kernel
def wp_X12_gap (h : AH) (a0 : Nat) (x1 : Int32) (x2 : Int32) (post : AH → Int32 → Prop) : Prop := (ob h a0 11) ∧ (∀ hv1 : AH, hv1 = hI h a0 0 0 → ((ob hv1 a0 11) ∧ wp_X12_isRaft hv1 a0 x1 (fun hv2 iv3 => (iv3 = 0 → (post hv2 (-1))) ∧ (¬ iv3 = 0 → ((ob hv2 a0 11) ∧ wp_X12_isRaft hv2 a0 x2 (fun hv4 iv5 => (iv5 = 0 → (post hv4 (-1))) ∧ (¬ iv5 = 0 → ((¬ x1 = x2 → ((ob hv4 a0 11) ∧ wp_X12_asItIs hv4 a0  (fun hv6  => (ob hv6 a0 11) ∧ wp_X12_gapOf hv6 a0 x1 x2 (fun hv7 iv8 => post hv7 iv8)))) ∧ (x1 = x2 → (post hv4 (-1)))))))))))
set_option maxRecDepth 100000 in
theorem c_X12_gap (G : GG) (h : AH) (a0 : Nat) (x1 : Int32) (x2 : Int32) (post : AH → Int32 → Prop) (hw : wp_X12_gap h a0 x1 x2 post) : MC G yX12_gap cX12_gap 3 (some .int) 2 47 h [.ref (G.1 + a0), .int x1, .int x2] (pI post) := by
  refine MC.of (lv := [(0, .ref (G.1 + a0)), (1, .int x1), (2, .int x2)]) (by decide) (Nat.le_of_ble_eq_true rfl) rfl fun p l e R s m args below meth c C hr hnm => ?_
  unfold wp_X12_gap at hw
  refine r_aload_n C dX12_gap_0 0 rfl ?_
  refine r_iconst (v := 0) C dX12_gap_1 (by decide) ?_
  refine r_putI C fp_RX12_1_11 hw.1 rfl dX12_gap_2 ?_
  replace hw := hw.2
  refine r_toph fun hv1 ehv1 => ?_
  replace hw := hw hv1 ehv1
  refine r_aload_n C dX12_gap_5 0 rfl ?_
  refine r_iload_n C dX12_gap_6 1 rfl ?_
  have hob := hw.1
  replace hw := hw.2
  refine r_callV C (As := [.int x1]) (rest := []) (c_X12_isRaft G hv1 a0 x1 _ hw) yl_X12_isRaft (gm8 (List.mem_of_getElem? (i := 49) rfl) rfl) (gm8 (List.mem_of_getElem? (i := 51) rfl) rfl) (ci := 11) rfl (by decide) (gsel (List.mem_of_getElem? (i := 68) rfl)) hob (by decide) rfl (Nat.le_of_ble_eq_true rfl) dX12_gap_7 rfl (kI fun hv2 iv3 hw => ?_)
  refine r_if_eq C dX12_gap_10 26 (by decide) (fun hc => ?_) (fun hc => ?_)
  · replace hw := hw.1 hc
    refine r_iconst (v := (-1)) C dX12_gap_26 (by decide) ?_
    exact r_iret C hr dX12_gap_27 hw
  · replace hw := hw.2 hc
    refine r_aload_n C dX12_gap_13 0 rfl ?_
    refine r_iload_n C dX12_gap_14 2 rfl ?_
    have hob := hw.1
    replace hw := hw.2
    refine r_callV C (As := [.int x2]) (rest := []) (c_X12_isRaft G hv2 a0 x2 _ hw) yl_X12_isRaft (gm8 (List.mem_of_getElem? (i := 49) rfl) rfl) (gm8 (List.mem_of_getElem? (i := 51) rfl) rfl) (ci := 11) rfl (by decide) (gsel (List.mem_of_getElem? (i := 68) rfl)) hob (by decide) rfl (Nat.le_of_ble_eq_true rfl) dX12_gap_15 rfl (kI fun hv4 iv5 hw => ?_)
    refine r_if_eq C dX12_gap_18 26 (by decide) (fun hc => ?_) (fun hc => ?_)
    · replace hw := hw.1 hc
      refine r_iconst (v := (-1)) C dX12_gap_26 (by decide) ?_
      exact r_iret C hr dX12_gap_27 hw
    · replace hw := hw.2 hc
      refine r_iload_n C dX12_gap_21 1 rfl ?_
      refine r_iload_n C dX12_gap_22 2 rfl ?_
      refine r_icmp_ne C dX12_gap_23 28 (by decide) (fun hc => ?_) (fun hc => ?_)
      · replace hw := hw.1 hc
        refine r_aload_n C dX12_gap_28 0 rfl ?_
        have hob := hw.1
        replace hw := hw.2
        refine r_callV C (As := []) (rest := []) (c_X12_asItIs G hv4 a0  _ hw) yl_X12_asItIs (gm8 (List.mem_of_getElem? (i := 57) rfl) rfl) (gm8 (List.mem_of_getElem? (i := 59) rfl) rfl) (ci := 11) rfl (by decide) (gsel (List.mem_of_getElem? (i := 70) rfl)) hob (by decide) rfl (Nat.le_of_ble_eq_true rfl) dX12_gap_29 rfl (kV fun hv6  hw => ?_)
        refine r_aload_n C dX12_gap_32 0 rfl ?_
        refine r_iload_n C dX12_gap_33 1 rfl ?_
        refine r_iload_n C dX12_gap_34 2 rfl ?_
        have hob := hw.1
        replace hw := hw.2
        refine r_callV C (As := [.int x1, .int x2]) (rest := []) (c_X12_gapOf G hv6 a0 x1 x2 _ hw) yl_X12_gapOf (gm7 (List.mem_of_getElem? (i := 223) rfl) rfl) (gm7 (List.mem_of_getElem? (i := 225) rfl) rfl) (ci := 11) rfl (by decide) (gsel (List.mem_of_getElem? (i := 56) rfl)) hob (by decide) rfl (Nat.le_of_ble_eq_true rfl) dX12_gap_35 rfl (kI fun hv7 iv8 hw => ?_)
        exact r_iret C hr dX12_gap_38 hw
      · replace hw := hw.2 hc
        refine r_iconst (v := (-1)) C dX12_gap_26 (by decide) ?_
        exact r_iret C hr dX12_gap_27 hw
theorem dX12_turns_0 : decode cX12_turns 0 = .ok (.iconst 0, 1) := by decide +kernel
theorem dX12_turns_1 : decode cX12_turns 1 = .ok (.istore_n 2, 1) := by decide +kernel
theorem dX12_turns_2 : decode cX12_turns 2 = .ok (.iload_n 2, 1) := by decide +kernel
theorem dX12_turns_3 : decode cX12_turns 3 = .ok (.aload_n 0, 1) := by decide +kernel
theorem dX12_turns_4 : decode cX12_turns 4 = .ok (.getfield 33, 3) := by decide +kernel
theorem dX12_turns_7 : decode cX12_turns 7 = .ok (.iconst 3, 1) := by decide +kernel
theorem dX12_turns_8 : decode cX12_turns 8 = .ok (.iaload, 1) := by decide +kernel
theorem dX12_turns_9 : decode cX12_turns 9 = .ok (.if_icmp .ge 161, 3) := by decide +kernel
theorem dX12_turns_12 : decode cX12_turns 12 = .ok (.aload_n 0, 1) := by decide +kernel
theorem dX12_turns_13 : decode cX12_turns 13 = .ok (.getfield 33, 3) := by decide +kernel
theorem dX12_turns_16 : decode cX12_turns 16 = .ok (.bipush 123, 2) := by decide +kernel
theorem dX12_turns_18 : decode cX12_turns 18 = .ok (.iconst 2, 1) := by decide +kernel
theorem dX12_turns_19 : decode cX12_turns 19 = .ok (.iload_n 2, 1) := by decide +kernel
theorem dX12_turns_20 : decode cX12_turns 20 = .ok (.imul, 1) := by decide +kernel
theorem dX12_turns_21 : decode cX12_turns 21 = .ok (.iadd, 1) := by decide +kernel
theorem dX12_turns_22 : decode cX12_turns 22 = .ok (.iaload, 1) := by decide +kernel
theorem dX12_turns_23 : decode cX12_turns 23 = .ok (.istore_n 3, 1) := by decide +kernel
theorem dX12_turns_24 : decode cX12_turns 24 = .ok (.aload_n 0, 1) := by decide +kernel
theorem dX12_turns_25 : decode cX12_turns 25 = .ok (.getfield 33, 3) := by decide +kernel
theorem dX12_turns_28 : decode cX12_turns 28 = .ok (.bipush 123, 2) := by decide +kernel
theorem dX12_turns_30 : decode cX12_turns 30 = .ok (.iconst 2, 1) := by decide +kernel
theorem dX12_turns_31 : decode cX12_turns 31 = .ok (.iload_n 2, 1) := by decide +kernel
theorem dX12_turns_32 : decode cX12_turns 32 = .ok (.imul, 1) := by decide +kernel
theorem dX12_turns_33 : decode cX12_turns 33 = .ok (.iadd, 1) := by decide +kernel
theorem dX12_turns_34 : decode cX12_turns 34 = .ok (.iconst 1, 1) := by decide +kernel
theorem dX12_turns_35 : decode cX12_turns 35 = .ok (.iadd, 1) := by decide +kernel
theorem dX12_turns_36 : decode cX12_turns 36 = .ok (.iaload, 1) := by decide +kernel
theorem dX12_turns_37 : decode cX12_turns 37 = .ok (.istore 4, 2) := by decide +kernel
theorem dX12_turns_39 : decode cX12_turns 39 = .ok (.aload_n 0, 1) := by decide +kernel
theorem dX12_turns_40 : decode cX12_turns 40 = .ok (.iload_n 1, 1) := by decide +kernel
theorem dX12_turns_41 : decode cX12_turns 41 = .ok (.iload_n 3, 1) := by decide +kernel
theorem dX12_turns_42 : decode cX12_turns 42 = .ok (.iload 4, 2) := by decide +kernel
theorem dX12_turns_44 : decode cX12_turns 44 = .ok (.invokevirtual 320, 3) := by decide +kernel
theorem dX12_turns_47 : decode cX12_turns 47 = .ok (.ifCond .ne 6, 3) := by decide +kernel
theorem dX12_turns_50 : decode cX12_turns 50 = .ok (.goto 114, 3) := by decide +kernel
theorem dX12_turns_53 : decode cX12_turns 53 = .ok (.iload_n 3, 1) := by decide +kernel
theorem dX12_turns_54 : decode cX12_turns 54 = .ok (.aload_n 0, 1) := by decide +kernel
theorem dX12_turns_55 : decode cX12_turns 55 = .ok (.getfield 50, 3) := by decide +kernel
theorem dX12_turns_58 : decode cX12_turns 58 = .ok (.iconst 3, 1) := by decide +kernel
theorem dX12_turns_59 : decode cX12_turns 59 = .ok (.iload_n 1, 1) := by decide +kernel
theorem dX12_turns_60 : decode cX12_turns 60 = .ok (.imul, 1) := by decide +kernel
theorem dX12_turns_61 : decode cX12_turns 61 = .ok (.iconst 1, 1) := by decide +kernel
theorem dX12_turns_62 : decode cX12_turns 62 = .ok (.iadd, 1) := by decide +kernel
theorem dX12_turns_63 : decode cX12_turns 63 = .ok (.iaload, 1) := by decide +kernel
theorem dX12_turns_64 : decode cX12_turns 64 = .ok (.aload_n 0, 1) := by decide +kernel
theorem dX12_turns_65 : decode cX12_turns 65 = .ok (.iload_n 1, 1) := by decide +kernel
theorem dX12_turns_66 : decode cX12_turns 66 = .ok (.invokevirtual 300, 3) := by decide +kernel
theorem dX12_turns_69 : decode cX12_turns 69 = .ok (.iadd, 1) := by decide +kernel
theorem dX12_turns_70 : decode cX12_turns 70 = .ok (.iconst 1, 1) := by decide +kernel
theorem dX12_turns_71 : decode cX12_turns 71 = .ok (.isub, 1) := by decide +kernel
theorem dX12_turns_72 : decode cX12_turns 72 = .ok (.iload 4, 2) := by decide +kernel
theorem dX12_turns_74 : decode cX12_turns 74 = .ok (.isub, 1) := by decide +kernel
theorem dX12_turns_75 : decode cX12_turns 75 = .ok (.isub, 1) := by decide +kernel
theorem dX12_turns_76 : decode cX12_turns 76 = .ok (.istore 5, 2) := by decide +kernel
theorem dX12_turns_78 : decode cX12_turns 78 = .ok (.iload 4, 2) := by decide +kernel
theorem dX12_turns_80 : decode cX12_turns 80 = .ok (.aload_n 0, 1) := by decide +kernel
theorem dX12_turns_81 : decode cX12_turns 81 = .ok (.getfield 50, 3) := by decide +kernel
theorem dX12_turns_84 : decode cX12_turns 84 = .ok (.iconst 3, 1) := by decide +kernel
theorem dX12_turns_85 : decode cX12_turns 85 = .ok (.iload_n 1, 1) := by decide +kernel
theorem dX12_turns_86 : decode cX12_turns 86 = .ok (.imul, 1) := by decide +kernel
theorem dX12_turns_87 : decode cX12_turns 87 = .ok (.iaload, 1) := by decide +kernel
theorem dX12_turns_88 : decode cX12_turns 88 = .ok (.iadd, 1) := by decide +kernel
theorem dX12_turns_89 : decode cX12_turns 89 = .ok (.iload_n 3, 1) := by decide +kernel
theorem dX12_turns_90 : decode cX12_turns 90 = .ok (.isub, 1) := by decide +kernel
theorem dX12_turns_91 : decode cX12_turns 91 = .ok (.istore 6, 2) := by decide +kernel
theorem dX12_turns_93 : decode cX12_turns 93 = .ok (.aload_n 0, 1) := by decide +kernel
theorem dX12_turns_94 : decode cX12_turns 94 = .ok (.getfield 50, 3) := by decide +kernel
theorem dX12_turns_97 : decode cX12_turns 97 = .ok (.iconst 3, 1) := by decide +kernel
theorem dX12_turns_98 : decode cX12_turns 98 = .ok (.iload_n 1, 1) := by decide +kernel
theorem dX12_turns_99 : decode cX12_turns 99 = .ok (.imul, 1) := by decide +kernel
theorem dX12_turns_100 : decode cX12_turns 100 = .ok (.iload 5, 2) := by decide +kernel
theorem dX12_turns_102 : decode cX12_turns 102 = .ok (.iastore, 1) := by decide +kernel
theorem dX12_turns_103 : decode cX12_turns 103 = .ok (.aload_n 0, 1) := by decide +kernel
theorem dX12_turns_104 : decode cX12_turns 104 = .ok (.getfield 50, 3) := by decide +kernel
theorem dX12_turns_107 : decode cX12_turns 107 = .ok (.iconst 3, 1) := by decide +kernel
theorem dX12_turns_108 : decode cX12_turns 108 = .ok (.iload_n 1, 1) := by decide +kernel
theorem dX12_turns_109 : decode cX12_turns 109 = .ok (.imul, 1) := by decide +kernel
theorem dX12_turns_110 : decode cX12_turns 110 = .ok (.iconst 1, 1) := by decide +kernel
theorem dX12_turns_111 : decode cX12_turns 111 = .ok (.iadd, 1) := by decide +kernel
theorem dX12_turns_112 : decode cX12_turns 112 = .ok (.iload 6, 2) := by decide +kernel
theorem dX12_turns_114 : decode cX12_turns 114 = .ok (.iastore, 1) := by decide +kernel
theorem dX12_turns_115 : decode cX12_turns 115 = .ok (.aload_n 0, 1) := by decide +kernel
theorem dX12_turns_116 : decode cX12_turns 116 = .ok (.getfield 50, 3) := by decide +kernel
theorem dX12_turns_119 : decode cX12_turns 119 = .ok (.iconst 3, 1) := by decide +kernel
theorem dX12_turns_120 : decode cX12_turns 120 = .ok (.iload_n 1, 1) := by decide +kernel
theorem dX12_turns_121 : decode cX12_turns 121 = .ok (.imul, 1) := by decide +kernel
theorem dX12_turns_122 : decode cX12_turns 122 = .ok (.iconst 2, 1) := by decide +kernel
theorem dX12_turns_123 : decode cX12_turns 123 = .ok (.iadd, 1) := by decide +kernel
theorem dX12_turns_124 : decode cX12_turns 124 = .ok (.aload_n 0, 1) := by decide +kernel
theorem dX12_turns_125 : decode cX12_turns 125 = .ok (.getfield 53, 3) := by decide +kernel
theorem dX12_turns_128 : decode cX12_turns 128 = .ok (.iconst 3, 1) := by decide +kernel
theorem dX12_turns_129 : decode cX12_turns 129 = .ok (.iload_n 1, 1) := by decide +kernel
theorem dX12_turns_130 : decode cX12_turns 130 = .ok (.imul, 1) := by decide +kernel
theorem dX12_turns_131 : decode cX12_turns 131 = .ok (.iaload, 1) := by decide +kernel
theorem dX12_turns_132 : decode cX12_turns 132 = .ok (.aload_n 0, 1) := by decide +kernel
theorem dX12_turns_133 : decode cX12_turns 133 = .ok (.getfield 53, 3) := by decide +kernel
theorem dX12_turns_136 : decode cX12_turns 136 = .ok (.iconst 3, 1) := by decide +kernel
theorem dX12_turns_137 : decode cX12_turns 137 = .ok (.iload_n 1, 1) := by decide +kernel
theorem dX12_turns_138 : decode cX12_turns 138 = .ok (.imul, 1) := by decide +kernel
theorem dX12_turns_139 : decode cX12_turns 139 = .ok (.iconst 1, 1) := by decide +kernel
theorem dX12_turns_140 : decode cX12_turns 140 = .ok (.iadd, 1) := by decide +kernel
theorem dX12_turns_141 : decode cX12_turns 141 = .ok (.iaload, 1) := by decide +kernel
theorem dX12_turns_142 : decode cX12_turns 142 = .ok (.if_icmp .ne 7, 3) := by decide +kernel
theorem dX12_turns_145 : decode cX12_turns 145 = .ok (.iconst 0, 1) := by decide +kernel
theorem dX12_turns_146 : decode cX12_turns 146 = .ok (.goto 15, 3) := by decide +kernel
theorem dX12_turns_149 : decode cX12_turns 149 = .ok (.iconst 1, 1) := by decide +kernel
theorem dX12_turns_150 : decode cX12_turns 150 = .ok (.aload_n 0, 1) := by decide +kernel
theorem dX12_turns_151 : decode cX12_turns 151 = .ok (.getfield 50, 3) := by decide +kernel
theorem dX12_turns_154 : decode cX12_turns 154 = .ok (.iconst 3, 1) := by decide +kernel
theorem dX12_turns_155 : decode cX12_turns 155 = .ok (.iload_n 1, 1) := by decide +kernel
theorem dX12_turns_156 : decode cX12_turns 156 = .ok (.imul, 1) := by decide +kernel
theorem dX12_turns_157 : decode cX12_turns 157 = .ok (.iconst 2, 1) := by decide +kernel
theorem dX12_turns_158 : decode cX12_turns 158 = .ok (.iadd, 1) := by decide +kernel
theorem dX12_turns_159 : decode cX12_turns 159 = .ok (.iaload, 1) := by decide +kernel
theorem dX12_turns_160 : decode cX12_turns 160 = .ok (.isub, 1) := by decide +kernel
theorem dX12_turns_161 : decode cX12_turns 161 = .ok (.iastore, 1) := by decide +kernel
theorem dX12_turns_162 : decode cX12_turns 162 = .ok (.iconst 1, 1) := by decide +kernel
theorem dX12_turns_163 : decode cX12_turns 163 = .ok (.ireturn, 1) := by decide +kernel
theorem dX12_turns_164 : decode cX12_turns 164 = .ok (.iinc 2 1, 3) := by decide +kernel
theorem dX12_turns_167 : decode cX12_turns 167 = .ok (.goto (-165), 3) := by decide +kernel
theorem dX12_turns_170 : decode cX12_turns 170 = .ok (.iconst 0, 1) := by decide +kernel
theorem dX12_turns_171 : decode cX12_turns 171 = .ok (.ireturn, 1) := by decide +kernel
def wb_X12_turns_161  (h : AH)  (xs0 : Int32) (xs1 : Int32) (as2 : Nat) (post : AH → Int32 → Prop) : Prop := (ob h as2 13) ∧ ((vp_in xs1 (aL h as2)) ∧ (∀ hv1 : AH, hv1 = hI h as2 xs1.toNatClampNeg xs0 → (((1 : Int32) = 0 ∨ (1 : Int32) = 1) ∧ post hv1 1)))
set_option maxRecDepth 100000 in
theorem tb_X12_turns_161 {G : GG} {p : Program} {l : Launch} {e : Env} {R : Room} {s : State} {m : MethodId} {args : Array Value} {below : List Frame} {meth : Method} {c : Code} {n0 s0 : Nat} {post : AH → Int32 → Prop} (C : Cx G p R s m args meth c 7 cX12_turns RX12 n0 s0 2 44) (hr : meth.sig.returnType = (some .boolean))   {h : AH}  {xs0 : Int32} {xs1 : Int32} {as2 : Nat} (hw : wb_X12_turns_161  h xs0 xs1 as2 post) : AW G p l e R s m args below meth c 7 (QM G (pI post) args s below n0 s0) 161 [] [.int xs0, .int xs1, .ref (G.1 + as2)] h := by
  unfold wb_X12_turns_161 at hw
  refine r_iastore C hw.1 hw.2.1 dX12_turns_161 ?_
  replace hw := hw.2.2
  refine r_toph fun hv1 ehv1 => ?_
  replace hw := hw hv1 ehv1
  refine r_iconst (v := 1) C dX12_turns_162 (by decide) ?_
  exact r_zret C hr dX12_turns_163 hw.1 hw.2
def wb_X12_turns_2 (K2 : AH → Nat → Int32 → Int32 → Prop) (h : AH) (al0 : Nat) (xl1 : Int32) (xl2 : Int32)  (post : AH → Int32 → Prop) : Prop := (ob h al0 11) ∧ (∃ rv1, aP h al0 6 = some rv1 ∧ ((ob h rv1 13) ∧ ((vp_in 3 (aL h rv1)) ∧ (((aI h rv1 (3 : Int32).toNatClampNeg) ≤ xl2 → (((0 : Int32) = 0 ∨ (0 : Int32) = 1) ∧ post h 0)) ∧ (¬ (aI h rv1 (3 : Int32).toNatClampNeg) ≤ xl2 → ((ob h al0 11) ∧ (∃ rv2, aP h al0 6 = some rv2 ∧ ((ob h rv2 13) ∧ ((vp_in ((123 : Int32) + ((2 : Int32) * xl2)) (aL h rv2)) ∧ (∀ iv3 : Int32, iv3 = aI h rv2 ((123 : Int32) + ((2 : Int32) * xl2)).toNatClampNeg → ((ob h al0 11) ∧ (∃ rv4, aP h al0 6 = some rv4 ∧ ((ob h rv4 13) ∧ ((vp_in (((123 : Int32) + ((2 : Int32) * xl2)) + (1 : Int32)) (aL h rv4)) ∧ (∀ iv5 : Int32, iv5 = aI h rv4 (((123 : Int32) + ((2 : Int32) * xl2)) + (1 : Int32)).toNatClampNeg → ((ob h al0 11) ∧ wp_X12_isOn h al0 xl1 iv3 iv5 (fun hv6 iv7 => (¬ iv7 = 0 → ((ob hv6 al0 11) ∧ (∃ rv8, aP hv6 al0 24 = some rv8 ∧ ((ob hv6 rv8 13) ∧ ((vp_in (((3 : Int32) * xl1) + (1 : Int32)) (aL hv6 rv8)) ∧ ((ob hv6 al0 11) ∧ wp_X12_high hv6 al0 xl1 (fun hv9 iv10 => ∀ iv11 : Int32, iv11 = iv3 - ((((aI hv6 rv8 (((3 : Int32) * xl1) + (1 : Int32)).toNatClampNeg) + iv10) - (1 : Int32)) - iv5) → ((ob hv9 al0 11) ∧ (∃ rv12, aP hv9 al0 24 = some rv12 ∧ ((ob hv9 rv12 13) ∧ ((vp_in ((3 : Int32) * xl1) (aL hv9 rv12)) ∧ (∀ iv13 : Int32, iv13 = (iv5 + (aI hv9 rv12 ((3 : Int32) * xl1).toNatClampNeg)) - iv3 → ((ob hv9 al0 11) ∧ (∃ rv14, aP hv9 al0 24 = some rv14 ∧ ((ob hv9 rv14 13) ∧ ((vp_in ((3 : Int32) * xl1) (aL hv9 rv14)) ∧ (∀ hv15 : AH, hv15 = hI hv9 rv14 ((3 : Int32) * xl1).toNatClampNeg iv11 → ((ob hv15 al0 11) ∧ (∃ rv16, aP hv15 al0 24 = some rv16 ∧ ((ob hv15 rv16 13) ∧ ((vp_in (((3 : Int32) * xl1) + (1 : Int32)) (aL hv15 rv16)) ∧ (∀ hv17 : AH, hv17 = hI hv15 rv16 (((3 : Int32) * xl1) + (1 : Int32)).toNatClampNeg iv13 → ((ob hv17 al0 11) ∧ (∃ rv18, aP hv17 al0 24 = some rv18 ∧ ((ob hv17 al0 11) ∧ (∃ rv19, aP hv17 al0 25 = some rv19 ∧ ((ob hv17 rv19 13) ∧ ((vp_in ((3 : Int32) * xl1) (aL hv17 rv19)) ∧ ((ob hv17 al0 11) ∧ (∃ rv20, aP hv17 al0 25 = some rv20 ∧ ((ob hv17 rv20 13) ∧ ((vp_in (((3 : Int32) * xl1) + (1 : Int32)) (aL hv17 rv20)) ∧ ((¬ (aI hv17 rv19 ((3 : Int32) * xl1).toNatClampNeg) = (aI hv17 rv20 (((3 : Int32) * xl1) + (1 : Int32)).toNatClampNeg) → ((ob hv17 al0 11) ∧ (∃ rv21, aP hv17 al0 24 = some rv21 ∧ ((ob hv17 rv21 13) ∧ ((vp_in (((3 : Int32) * xl1) + (2 : Int32)) (aL hv17 rv21)) ∧ (wb_X12_turns_161  hv17 ((1 : Int32) - (aI hv17 rv21 (((3 : Int32) * xl1) + (2 : Int32)).toNatClampNeg)) (((3 : Int32) * xl1) + (2 : Int32)) rv18 post)))))) ∧ ((aI hv17 rv19 ((3 : Int32) * xl1).toNatClampNeg) = (aI hv17 rv20 (((3 : Int32) * xl1) + (1 : Int32)).toNatClampNeg) → (wb_X12_turns_161  hv17 0 (((3 : Int32) * xl1) + (2 : Int32)) rv18 post))))))))))))))))))))))))))))))))))) ∧ (iv7 = 0 → (∀ iv22 : Int32, iv22 = xl2 + 1 → (K2 hv6 al0 xl1 iv22))))))))))))))))))))
set_option maxRecDepth 100000 in
theorem tb_X12_turns_2 {G : GG} {p : Program} {l : Launch} {e : Env} {R : Room} {s : State} {m : MethodId} {args : Array Value} {below : List Frame} {meth : Method} {c : Code} {n0 s0 : Nat} {post : AH → Int32 → Prop} (C : Cx G p R s m args meth c 7 cX12_turns RX12 n0 s0 2 44) (hr : meth.sig.returnType = (some .boolean)) {K2 : AH → Nat → Int32 → Int32 → Prop} (hK2 : ∀ (h : AH) (al0 : Nat) (xl1 : Int32) (xl2 : Int32), K2 h al0 xl1 xl2 → AW G p l e R s m args below meth c 7 (QM G (pI post) args s below n0 s0) 2 [(0, .ref (G.1 + al0)), (1, .int xl1), (2, .int xl2)] [] h) {h : AH} {al0 : Nat} {xl1 : Int32} {xl2 : Int32}  (hw : wb_X12_turns_2 K2 h al0 xl1 xl2 post) : AW G p l e R s m args below meth c 7 (QM G (pI post) args s below n0 s0) 2 [(0, .ref (G.1 + al0)), (1, .int xl1), (2, .int xl2)] [] h := by
  unfold wb_X12_turns_2 at hw
  refine r_iload_n C dX12_turns_2 2 rfl ?_
  refine r_aload_n C dX12_turns_3 0 rfl ?_
  have hob := hw.1
  obtain ⟨rv1, hp, hw⟩ := hw.2
  refine r_getP C fl_RX12_33_11 hob hp (fun _ _ _ => rfl) dX12_turns_4 ?_
  refine r_iconst (v := 3) C dX12_turns_7 (by decide) ?_
  refine r_iaload C hw.1 hw.2.1 dX12_turns_8 ?_
  replace hw := hw.2.2
  refine r_icmp_ge C dX12_turns_9 170 (by decide) (fun hc => ?_) (fun hc => ?_)
  · replace hw := hw.1 hc
    refine r_iconst (v := 0) C dX12_turns_170 (by decide) ?_
    exact r_zret C hr dX12_turns_171 hw.1 hw.2
  · replace hw := hw.2 hc
    refine r_aload_n C dX12_turns_12 0 rfl ?_
    have hob := hw.1
    obtain ⟨rv2, hp, hw⟩ := hw.2
    refine r_getP C fl_RX12_33_11 hob hp (fun _ _ _ => rfl) dX12_turns_13 ?_
    refine r_bipush (v := 123) C dX12_turns_16 (by decide) ?_
    refine r_iconst (v := 2) C dX12_turns_18 (by decide) ?_
    refine r_iload_n C dX12_turns_19 2 rfl ?_
    refine r_imul C dX12_turns_20 ?_
    refine r_iadd C dX12_turns_21 ?_
    refine r_iaload C hw.1 hw.2.1 dX12_turns_22 ?_
    replace hw := hw.2.2
    refine r_topi fun iv3 eiv3 => ?_
    replace hw := hw iv3 eiv3
    refine r_istore_n C dX12_turns_23 [(3, .int iv3), (0, .ref (G.1 + al0)), (1, .int xl1), (2, .int xl2)] (by decide) rfl ?_
    refine r_aload_n C dX12_turns_24 1 rfl ?_
    have hob := hw.1
    obtain ⟨rv4, hp, hw⟩ := hw.2
    refine r_getP C fl_RX12_33_11 hob hp (fun _ _ _ => rfl) dX12_turns_25 ?_
    refine r_bipush (v := 123) C dX12_turns_28 (by decide) ?_
    refine r_iconst (v := 2) C dX12_turns_30 (by decide) ?_
    refine r_iload_n C dX12_turns_31 3 rfl ?_
    refine r_imul C dX12_turns_32 ?_
    refine r_iadd C dX12_turns_33 ?_
    refine r_iconst (v := 1) C dX12_turns_34 (by decide) ?_
    refine r_iadd C dX12_turns_35 ?_
    refine r_iaload C hw.1 hw.2.1 dX12_turns_36 ?_
    replace hw := hw.2.2
    refine r_topi fun iv5 eiv5 => ?_
    replace hw := hw iv5 eiv5
    refine r_istore C dX12_turns_37 [(4, .int iv5), (3, .int iv3), (0, .ref (G.1 + al0)), (1, .int xl1), (2, .int xl2)] (by decide) rfl ?_
    refine r_aload_n C dX12_turns_39 2 rfl ?_
    refine r_iload_n C dX12_turns_40 3 rfl ?_
    refine r_iload_n C dX12_turns_41 1 rfl ?_
    refine r_iload C dX12_turns_42 0 rfl ?_
    have hob := hw.1
    replace hw := hw.2
    refine r_callV C (As := [.int xl1, .int iv3, .int iv5]) (rest := []) (c_X12_isOn G h al0 xl1 iv3 iv5 _ hw) yl_X12_isOn (gm8 (List.mem_of_getElem? (i := 65) rfl) rfl) (gm8 (List.mem_of_getElem? (i := 67) rfl) rfl) (ci := 11) rfl (by decide) (gsel (List.mem_of_getElem? (i := 71) rfl)) hob (by decide) rfl (Nat.le_of_ble_eq_true rfl) dX12_turns_44 rfl (kI fun hv6 iv7 hw => ?_)
    refine r_if_ne C dX12_turns_47 53 (by decide) (fun hc => ?_) (fun hc => ?_)
    · replace hw := hw.1 hc
      refine r_iload_n C dX12_turns_53 1 rfl ?_
      refine r_aload_n C dX12_turns_54 2 rfl ?_
      have hob := hw.1
      obtain ⟨rv8, hp, hw⟩ := hw.2
      refine r_getP C fl_RX12_50_11 hob hp (fun _ _ _ => rfl) dX12_turns_55 ?_
      refine r_iconst (v := 3) C dX12_turns_58 (by decide) ?_
      refine r_iload_n C dX12_turns_59 3 rfl ?_
      refine r_imul C dX12_turns_60 ?_
      refine r_iconst (v := 1) C dX12_turns_61 (by decide) ?_
      refine r_iadd C dX12_turns_62 ?_
      refine r_iaload C hw.1 hw.2.1 dX12_turns_63 ?_
      replace hw := hw.2.2
      refine r_aload_n C dX12_turns_64 2 rfl ?_
      refine r_iload_n C dX12_turns_65 3 rfl ?_
      have hob := hw.1
      replace hw := hw.2
      refine r_callV C (As := [.int xl1]) (rest := [.int (aI hv6 rv8 (((3 : Int32) * xl1) + (1 : Int32)).toNatClampNeg), .int iv3]) (c_X12_high G hv6 al0 xl1 _ hw) yl_X12_high (gm7 (List.mem_of_getElem? (i := 234) rfl) rfl) (gm7 (List.mem_of_getElem? (i := 236) rfl) rfl) (ci := 11) rfl (by decide) (gsel (List.mem_of_getElem? (i := 58) rfl)) hob (by decide) rfl (Nat.le_of_ble_eq_true rfl) dX12_turns_66 rfl (kI fun hv9 iv10 hw => ?_)
      refine r_iadd C dX12_turns_69 ?_
      refine r_iconst (v := 1) C dX12_turns_70 (by decide) ?_
      refine r_isub C dX12_turns_71 ?_
      refine r_iload C dX12_turns_72 0 rfl ?_
      refine r_isub C dX12_turns_74 ?_
      refine r_isub C dX12_turns_75 ?_
      refine r_topi fun iv11 eiv11 => ?_
      replace hw := hw iv11 eiv11
      refine r_istore C dX12_turns_76 [(5, .int iv11), (4, .int iv5), (3, .int iv3), (0, .ref (G.1 + al0)), (1, .int xl1), (2, .int xl2)] (by decide) rfl ?_
      refine r_iload C dX12_turns_78 1 rfl ?_
      refine r_aload_n C dX12_turns_80 3 rfl ?_
      have hob := hw.1
      obtain ⟨rv12, hp, hw⟩ := hw.2
      refine r_getP C fl_RX12_50_11 hob hp (fun _ _ _ => rfl) dX12_turns_81 ?_
      refine r_iconst (v := 3) C dX12_turns_84 (by decide) ?_
      refine r_iload_n C dX12_turns_85 4 rfl ?_
      refine r_imul C dX12_turns_86 ?_
      refine r_iaload C hw.1 hw.2.1 dX12_turns_87 ?_
      replace hw := hw.2.2
      refine r_iadd C dX12_turns_88 ?_
      refine r_iload_n C dX12_turns_89 2 rfl ?_
      refine r_isub C dX12_turns_90 ?_
      refine r_topi fun iv13 eiv13 => ?_
      replace hw := hw iv13 eiv13
      refine r_istore C dX12_turns_91 [(6, .int iv13), (5, .int iv11), (4, .int iv5), (3, .int iv3), (0, .ref (G.1 + al0)), (1, .int xl1), (2, .int xl2)] (by decide) rfl ?_
      refine r_aload_n C dX12_turns_93 4 rfl ?_
      have hob := hw.1
      obtain ⟨rv14, hp, hw⟩ := hw.2
      refine r_getP C fl_RX12_50_11 hob hp (fun _ _ _ => rfl) dX12_turns_94 ?_
      refine r_iconst (v := 3) C dX12_turns_97 (by decide) ?_
      refine r_iload_n C dX12_turns_98 5 rfl ?_
      refine r_imul C dX12_turns_99 ?_
      refine r_iload C dX12_turns_100 1 rfl ?_
      refine r_iastore C hw.1 hw.2.1 dX12_turns_102 ?_
      replace hw := hw.2.2
      refine r_toph fun hv15 ehv15 => ?_
      replace hw := hw hv15 ehv15
      refine r_aload_n C dX12_turns_103 4 rfl ?_
      have hob := hw.1
      obtain ⟨rv16, hp, hw⟩ := hw.2
      refine r_getP C fl_RX12_50_11 hob hp (fun _ _ _ => rfl) dX12_turns_104 ?_
      refine r_iconst (v := 3) C dX12_turns_107 (by decide) ?_
      refine r_iload_n C dX12_turns_108 5 rfl ?_
      refine r_imul C dX12_turns_109 ?_
      refine r_iconst (v := 1) C dX12_turns_110 (by decide) ?_
      refine r_iadd C dX12_turns_111 ?_
      refine r_iload C dX12_turns_112 0 rfl ?_
      refine r_iastore C hw.1 hw.2.1 dX12_turns_114 ?_
      replace hw := hw.2.2
      refine r_toph fun hv17 ehv17 => ?_
      replace hw := hw hv17 ehv17
      refine r_aload_n C dX12_turns_115 4 rfl ?_
      have hob := hw.1
      obtain ⟨rv18, hp, hw⟩ := hw.2
      refine r_getP C fl_RX12_50_11 hob hp (fun _ _ _ => rfl) dX12_turns_116 ?_
      refine r_iconst (v := 3) C dX12_turns_119 (by decide) ?_
      refine r_iload_n C dX12_turns_120 5 rfl ?_
      refine r_imul C dX12_turns_121 ?_
      refine r_iconst (v := 2) C dX12_turns_122 (by decide) ?_
      refine r_iadd C dX12_turns_123 ?_
      refine r_aload_n C dX12_turns_124 4 rfl ?_
      have hob := hw.1
      obtain ⟨rv19, hp, hw⟩ := hw.2
      refine r_getP C fl_RX12_53_11 hob hp (fun _ _ _ => rfl) dX12_turns_125 ?_
      refine r_iconst (v := 3) C dX12_turns_128 (by decide) ?_
      refine r_iload_n C dX12_turns_129 5 rfl ?_
      refine r_imul C dX12_turns_130 ?_
      refine r_iaload C hw.1 hw.2.1 dX12_turns_131 ?_
      replace hw := hw.2.2
      refine r_aload_n C dX12_turns_132 4 rfl ?_
      have hob := hw.1
      obtain ⟨rv20, hp, hw⟩ := hw.2
      refine r_getP C fl_RX12_53_11 hob hp (fun _ _ _ => rfl) dX12_turns_133 ?_
      refine r_iconst (v := 3) C dX12_turns_136 (by decide) ?_
      refine r_iload_n C dX12_turns_137 5 rfl ?_
      refine r_imul C dX12_turns_138 ?_
      refine r_iconst (v := 1) C dX12_turns_139 (by decide) ?_
      refine r_iadd C dX12_turns_140 ?_
      refine r_iaload C hw.1 hw.2.1 dX12_turns_141 ?_
      replace hw := hw.2.2
      refine r_icmp_ne C dX12_turns_142 149 (by decide) (fun hc => ?_) (fun hc => ?_)
      · replace hw := hw.1 hc
        refine r_iconst (v := 1) C dX12_turns_149 (by decide) ?_
        refine r_aload_n C dX12_turns_150 4 rfl ?_
        have hob := hw.1
        obtain ⟨rv21, hp, hw⟩ := hw.2
        refine r_getP C fl_RX12_50_11 hob hp (fun _ _ _ => rfl) dX12_turns_151 ?_
        refine r_iconst (v := 3) C dX12_turns_154 (by decide) ?_
        refine r_iload_n C dX12_turns_155 5 rfl ?_
        refine r_imul C dX12_turns_156 ?_
        refine r_iconst (v := 2) C dX12_turns_157 (by decide) ?_
        refine r_iadd C dX12_turns_158 ?_
        refine r_iaload C hw.1 hw.2.1 dX12_turns_159 ?_
        replace hw := hw.2.2
        refine r_isub C dX12_turns_160 ?_
        refine r_sub [] rfl ?_
        exact tb_X12_turns_161 C hr  hw
      · replace hw := hw.2 hc
        refine r_iconst (v := 0) C dX12_turns_145 (by decide) ?_
        refine r_goto C dX12_turns_146 161 (by decide) ?_
        refine r_sub [] rfl ?_
        exact tb_X12_turns_161 C hr  hw
    · replace hw := hw.2 hc
      refine r_goto C dX12_turns_50 164 (by decide) ?_
      obtain ⟨iv22, eiv22⟩ : ∃ q : Int32, q = xl2 + 1 := ⟨_, rfl⟩
      replace hw := hw iv22 eiv22
      refine r_iinc C dX12_turns_164 4 rfl (by rw [eiv22]; rfl) [(2, .int iv22), (4, .int iv5), (3, .int iv3), (0, .ref (G.1 + al0)), (1, .int xl1)] (by decide) rfl ?_
      refine r_goto C dX12_turns_167 2 (by decide) ?_
      refine r_sub [3, 4, 0] rfl ?_
      exact hK2 _ _ _ _ hw
def wl_X12_turns_2  (post : AH → Int32 → Prop) : Nat → AH → Nat → Int32 → Int32 → Prop
  | 0 => fun _ _ _ _ => False
  | n + 1 => fun h al0 xl1 xl2 => wb_X12_turns_2  (wl_X12_turns_2  post n) h al0 xl1 xl2 post
theorem tl_X12_turns_2 {G : GG} {p : Program} {l : Launch} {e : Env} {R : Room} {s : State} {m : MethodId} {args : Array Value} {below : List Frame} {meth : Method} {c : Code} {n0 s0 : Nat} {post : AH → Int32 → Prop} (C : Cx G p R s m args meth c 7 cX12_turns RX12 n0 s0 2 44) (hr : meth.sig.returnType = (some .boolean))   : ∀ (n : Nat) (h : AH) (al0 : Nat) (xl1 : Int32) (xl2 : Int32), wl_X12_turns_2  post n h al0 xl1 xl2 → AW G p l e R s m args below meth c 7 (QM G (pI post) args s below n0 s0) 2 [(0, .ref (G.1 + al0)), (1, .int xl1), (2, .int xl2)] [] h := by
  intro n
  induction n with
  | zero => intro h al0 xl1 xl2 hw; exact hw.elim
  | succ n ih => intro h al0 xl1 xl2 hw; exact tb_X12_turns_2 C hr  ih hw
def wp_X12_turns (h : AH) (a0 : Nat) (x1 : Int32) (post : AH → Int32 → Prop) : Prop := ∃ n, wl_X12_turns_2  post n h a0 x1 0
set_option maxRecDepth 100000 in
theorem c_X12_turns (G : GG) (h : AH) (a0 : Nat) (x1 : Int32) (post : AH → Int32 → Prop) (hw : wp_X12_turns h a0 x1 post) : MC G yX12_turns cX12_turns 7 (some .boolean) 2 44 h [.ref (G.1 + a0), .int x1] (pI post) := by
  refine MC.of (lv := [(0, .ref (G.1 + a0)), (1, .int x1)]) (by decide) (Nat.le_of_ble_eq_true rfl) rfl fun p l e R s m args below meth c C hr hnm => ?_
  unfold wp_X12_turns at hw
  refine r_iconst (v := 0) C dX12_turns_0 (by decide) ?_
  refine r_istore_n C dX12_turns_1 [(2, .int 0), (0, .ref (G.1 + a0)), (1, .int x1)] (by decide) rfl ?_
  refine r_sub [1, 2, 0] rfl ?_
  obtain ⟨n, hw⟩ := hw
  exact tl_X12_turns_2 C hr  n _ _ _ _ hw
theorem dX12_moves_0 : decode cX12_moves 0 = .ok (.aload_n 0, 1) := by decide +kernel
theorem dX12_moves_1 : decode cX12_moves 1 = .ok (.iload_n 1, 1) := by decide +kernel
theorem dX12_moves_2 : decode cX12_moves 2 = .ok (.iload_n 3, 1) := by decide +kernel
theorem dX12_moves_3 : decode cX12_moves 3 = .ok (.invokevirtual 338, 3) := by decide +kernel
theorem dX12_moves_6 : decode cX12_moves 6 = .ok (.ifCond .ne 5, 3) := by decide +kernel
theorem dX12_moves_9 : decode cX12_moves 9 = .ok (.iconst 1, 1) := by decide +kernel
theorem dX12_moves_10 : decode cX12_moves 10 = .ok (.ireturn, 1) := by decide +kernel
theorem dX12_moves_11 : decode cX12_moves 11 = .ok (.aload_n 0, 1) := by decide +kernel
theorem dX12_moves_12 : decode cX12_moves 12 = .ok (.getfield 50, 3) := by decide +kernel
theorem dX12_moves_15 : decode cX12_moves 15 = .ok (.iconst 3, 1) := by decide +kernel
theorem dX12_moves_16 : decode cX12_moves 16 = .ok (.iload_n 1, 1) := by decide +kernel
theorem dX12_moves_17 : decode cX12_moves 17 = .ok (.imul, 1) := by decide +kernel
theorem dX12_moves_18 : decode cX12_moves 18 = .ok (.iaload, 1) := by decide +kernel
theorem dX12_moves_19 : decode cX12_moves 19 = .ok (.istore 4, 2) := by decide +kernel
theorem dX12_moves_21 : decode cX12_moves 21 = .ok (.aload_n 0, 1) := by decide +kernel
theorem dX12_moves_22 : decode cX12_moves 22 = .ok (.getfield 50, 3) := by decide +kernel
theorem dX12_moves_25 : decode cX12_moves 25 = .ok (.iconst 3, 1) := by decide +kernel
theorem dX12_moves_26 : decode cX12_moves 26 = .ok (.iload_n 1, 1) := by decide +kernel
theorem dX12_moves_27 : decode cX12_moves 27 = .ok (.imul, 1) := by decide +kernel
theorem dX12_moves_28 : decode cX12_moves 28 = .ok (.iconst 1, 1) := by decide +kernel
theorem dX12_moves_29 : decode cX12_moves 29 = .ok (.iadd, 1) := by decide +kernel
theorem dX12_moves_30 : decode cX12_moves 30 = .ok (.iaload, 1) := by decide +kernel
theorem dX12_moves_31 : decode cX12_moves 31 = .ok (.istore 5, 2) := by decide +kernel
theorem dX12_moves_33 : decode cX12_moves 33 = .ok (.aload_n 0, 1) := by decide +kernel
theorem dX12_moves_34 : decode cX12_moves 34 = .ok (.getfield 50, 3) := by decide +kernel
theorem dX12_moves_37 : decode cX12_moves 37 = .ok (.iconst 3, 1) := by decide +kernel
theorem dX12_moves_38 : decode cX12_moves 38 = .ok (.iload_n 1, 1) := by decide +kernel
theorem dX12_moves_39 : decode cX12_moves 39 = .ok (.imul, 1) := by decide +kernel
theorem dX12_moves_40 : decode cX12_moves 40 = .ok (.iconst 2, 1) := by decide +kernel
theorem dX12_moves_41 : decode cX12_moves 41 = .ok (.iadd, 1) := by decide +kernel
theorem dX12_moves_42 : decode cX12_moves 42 = .ok (.iaload, 1) := by decide +kernel
theorem dX12_moves_43 : decode cX12_moves 43 = .ok (.istore 6, 2) := by decide +kernel
theorem dX12_moves_45 : decode cX12_moves 45 = .ok (.iload_n 2, 1) := by decide +kernel
theorem dX12_moves_46 : decode cX12_moves 46 = .ok (.iconst 4, 1) := by decide +kernel
theorem dX12_moves_47 : decode cX12_moves 47 = .ok (.if_icmp .ne 13, 3) := by decide +kernel
theorem dX12_moves_50 : decode cX12_moves 50 = .ok (.aload_n 0, 1) := by decide +kernel
theorem dX12_moves_51 : decode cX12_moves 51 = .ok (.iload_n 1, 1) := by decide +kernel
theorem dX12_moves_52 : decode cX12_moves 52 = .ok (.invokevirtual 344, 3) := by decide +kernel
theorem dX12_moves_55 : decode cX12_moves 55 = .ok (.ifCond .ne 5, 3) := by decide +kernel
theorem dX12_moves_58 : decode cX12_moves 58 = .ok (.iconst 2, 1) := by decide +kernel
theorem dX12_moves_59 : decode cX12_moves 59 = .ok (.ireturn, 1) := by decide +kernel
theorem dX12_moves_60 : decode cX12_moves 60 = .ok (.iload_n 2, 1) := by decide +kernel
theorem dX12_moves_61 : decode cX12_moves 61 = .ok (.iconst 4, 1) := by decide +kernel
theorem dX12_moves_62 : decode cX12_moves 62 = .ok (.if_icmp .ge 64, 3) := by decide +kernel
theorem dX12_moves_65 : decode cX12_moves 65 = .ok (.aload_n 0, 1) := by decide +kernel
theorem dX12_moves_66 : decode cX12_moves 66 = .ok (.getfield 50, 3) := by decide +kernel
theorem dX12_moves_69 : decode cX12_moves 69 = .ok (.iconst 3, 1) := by decide +kernel
theorem dX12_moves_70 : decode cX12_moves 70 = .ok (.iload_n 1, 1) := by decide +kernel
theorem dX12_moves_71 : decode cX12_moves 71 = .ok (.imul, 1) := by decide +kernel
theorem dX12_moves_72 : decode cX12_moves 72 = .ok (.dup2, 1) := by decide +kernel
theorem dX12_moves_73 : decode cX12_moves 73 = .ok (.iaload, 1) := by decide +kernel
theorem dX12_moves_74 : decode cX12_moves 74 = .ok (.iload_n 2, 1) := by decide +kernel
theorem dX12_moves_75 : decode cX12_moves 75 = .ok (.iconst 1, 1) := by decide +kernel
theorem dX12_moves_76 : decode cX12_moves 76 = .ok (.if_icmp .ne 7, 3) := by decide +kernel
theorem dX12_moves_79 : decode cX12_moves 79 = .ok (.iconst 1, 1) := by decide +kernel
theorem dX12_moves_80 : decode cX12_moves 80 = .ok (.goto 13, 3) := by decide +kernel
theorem dX12_moves_83 : decode cX12_moves 83 = .ok (.iload_n 2, 1) := by decide +kernel
theorem dX12_moves_84 : decode cX12_moves 84 = .ok (.iconst 3, 1) := by decide +kernel
theorem dX12_moves_85 : decode cX12_moves 85 = .ok (.if_icmp .ne 7, 3) := by decide +kernel
theorem dX12_moves_88 : decode cX12_moves 88 = .ok (.iconst (-1), 1) := by decide +kernel
theorem dX12_moves_89 : decode cX12_moves 89 = .ok (.goto 4, 3) := by decide +kernel
theorem dX12_moves_92 : decode cX12_moves 92 = .ok (.iconst 0, 1) := by decide +kernel
theorem dX12_moves_93 : decode cX12_moves 93 = .ok (.iadd, 1) := by decide +kernel
theorem dX12_moves_94 : decode cX12_moves 94 = .ok (.iastore, 1) := by decide +kernel
theorem dX12_moves_95 : decode cX12_moves 95 = .ok (.aload_n 0, 1) := by decide +kernel
theorem dX12_moves_96 : decode cX12_moves 96 = .ok (.getfield 50, 3) := by decide +kernel
theorem dX12_moves_99 : decode cX12_moves 99 = .ok (.iconst 3, 1) := by decide +kernel
theorem dX12_moves_100 : decode cX12_moves 100 = .ok (.iload_n 1, 1) := by decide +kernel
theorem dX12_moves_101 : decode cX12_moves 101 = .ok (.imul, 1) := by decide +kernel
theorem dX12_moves_102 : decode cX12_moves 102 = .ok (.iconst 1, 1) := by decide +kernel
theorem dX12_moves_103 : decode cX12_moves 103 = .ok (.iadd, 1) := by decide +kernel
theorem dX12_moves_104 : decode cX12_moves 104 = .ok (.dup2, 1) := by decide +kernel
theorem dX12_moves_105 : decode cX12_moves 105 = .ok (.iaload, 1) := by decide +kernel
theorem dX12_moves_106 : decode cX12_moves 106 = .ok (.iload_n 2, 1) := by decide +kernel
theorem dX12_moves_107 : decode cX12_moves 107 = .ok (.iconst 2, 1) := by decide +kernel
theorem dX12_moves_108 : decode cX12_moves 108 = .ok (.if_icmp .ne 7, 3) := by decide +kernel
theorem dX12_moves_111 : decode cX12_moves 111 = .ok (.iconst 1, 1) := by decide +kernel
theorem dX12_moves_112 : decode cX12_moves 112 = .ok (.goto 12, 3) := by decide +kernel
theorem dX12_moves_115 : decode cX12_moves 115 = .ok (.iload_n 2, 1) := by decide +kernel
theorem dX12_moves_116 : decode cX12_moves 116 = .ok (.ifCond .ne 7, 3) := by decide +kernel
theorem dX12_moves_119 : decode cX12_moves 119 = .ok (.iconst (-1), 1) := by decide +kernel
theorem dX12_moves_120 : decode cX12_moves 120 = .ok (.goto 4, 3) := by decide +kernel
theorem dX12_moves_123 : decode cX12_moves 123 = .ok (.iconst 0, 1) := by decide +kernel
theorem dX12_moves_124 : decode cX12_moves 124 = .ok (.iadd, 1) := by decide +kernel
theorem dX12_moves_125 : decode cX12_moves 125 = .ok (.iastore, 1) := by decide +kernel
theorem dX12_moves_126 : decode cX12_moves 126 = .ok (.aload_n 0, 1) := by decide +kernel
theorem dX12_moves_127 : decode cX12_moves 127 = .ok (.iload_n 1, 1) := by decide +kernel
theorem dX12_moves_128 : decode cX12_moves 128 = .ok (.invokevirtual 326, 3) := by decide +kernel
theorem dX12_moves_131 : decode cX12_moves 131 = .ok (.ifCond .ne 7, 3) := by decide +kernel
theorem dX12_moves_134 : decode cX12_moves 134 = .ok (.iconst 3, 1) := by decide +kernel
theorem dX12_moves_135 : decode cX12_moves 135 = .ok (.goto 42, 3) := by decide +kernel
theorem dX12_moves_138 : decode cX12_moves 138 = .ok (.aload_n 0, 1) := by decide +kernel
theorem dX12_moves_139 : decode cX12_moves 139 = .ok (.iload_n 1, 1) := by decide +kernel
theorem dX12_moves_140 : decode cX12_moves 140 = .ok (.invokevirtual 329, 3) := by decide +kernel
theorem dX12_moves_143 : decode cX12_moves 143 = .ok (.ifCond .eq 7, 3) := by decide +kernel
theorem dX12_moves_146 : decode cX12_moves 146 = .ok (.iconst 4, 1) := by decide +kernel
theorem dX12_moves_147 : decode cX12_moves 147 = .ok (.goto 30, 3) := by decide +kernel
theorem dX12_moves_150 : decode cX12_moves 150 = .ok (.aload_n 0, 1) := by decide +kernel
theorem dX12_moves_151 : decode cX12_moves 151 = .ok (.iload_n 1, 1) := by decide +kernel
theorem dX12_moves_152 : decode cX12_moves 152 = .ok (.iload_n 3, 1) := by decide +kernel
theorem dX12_moves_153 : decode cX12_moves 153 = .ok (.invokevirtual 338, 3) := by decide +kernel
theorem dX12_moves_156 : decode cX12_moves 156 = .ok (.ifCond .ne 7, 3) := by decide +kernel
theorem dX12_moves_159 : decode cX12_moves 159 = .ok (.iconst 5, 1) := by decide +kernel
theorem dX12_moves_160 : decode cX12_moves 160 = .ok (.goto 17, 3) := by decide +kernel
theorem dX12_moves_163 : decode cX12_moves 163 = .ok (.aload_n 0, 1) := by decide +kernel
theorem dX12_moves_164 : decode cX12_moves 164 = .ok (.iload_n 1, 1) := by decide +kernel
theorem dX12_moves_165 : decode cX12_moves 165 = .ok (.invokevirtual 347, 3) := by decide +kernel
theorem dX12_moves_168 : decode cX12_moves 168 = .ok (.ifCond .eq 8, 3) := by decide +kernel
theorem dX12_moves_171 : decode cX12_moves 171 = .ok (.bipush 6, 2) := by decide +kernel
theorem dX12_moves_173 : decode cX12_moves 173 = .ok (.goto 4, 3) := by decide +kernel
theorem dX12_moves_176 : decode cX12_moves 176 = .ok (.iconst 0, 1) := by decide +kernel
theorem dX12_moves_177 : decode cX12_moves 177 = .ok (.istore 7, 2) := by decide +kernel
theorem dX12_moves_179 : decode cX12_moves 179 = .ok (.iload 7, 2) := by decide +kernel
theorem dX12_moves_181 : decode cX12_moves 181 = .ok (.ifCond .ne 5, 3) := by decide +kernel
theorem dX12_moves_184 : decode cX12_moves 184 = .ok (.iconst 0, 1) := by decide +kernel
theorem dX12_moves_185 : decode cX12_moves 185 = .ok (.ireturn, 1) := by decide +kernel
theorem dX12_moves_186 : decode cX12_moves 186 = .ok (.aload_n 0, 1) := by decide +kernel
theorem dX12_moves_187 : decode cX12_moves 187 = .ok (.getfield 50, 3) := by decide +kernel
theorem dX12_moves_190 : decode cX12_moves 190 = .ok (.iconst 3, 1) := by decide +kernel
theorem dX12_moves_191 : decode cX12_moves 191 = .ok (.iload_n 1, 1) := by decide +kernel
theorem dX12_moves_192 : decode cX12_moves 192 = .ok (.imul, 1) := by decide +kernel
theorem dX12_moves_193 : decode cX12_moves 193 = .ok (.iload 4, 2) := by decide +kernel
theorem dX12_moves_195 : decode cX12_moves 195 = .ok (.iastore, 1) := by decide +kernel
theorem dX12_moves_196 : decode cX12_moves 196 = .ok (.aload_n 0, 1) := by decide +kernel
theorem dX12_moves_197 : decode cX12_moves 197 = .ok (.getfield 50, 3) := by decide +kernel
theorem dX12_moves_200 : decode cX12_moves 200 = .ok (.iconst 3, 1) := by decide +kernel
theorem dX12_moves_201 : decode cX12_moves 201 = .ok (.iload_n 1, 1) := by decide +kernel
theorem dX12_moves_202 : decode cX12_moves 202 = .ok (.imul, 1) := by decide +kernel
theorem dX12_moves_203 : decode cX12_moves 203 = .ok (.iconst 1, 1) := by decide +kernel
theorem dX12_moves_204 : decode cX12_moves 204 = .ok (.iadd, 1) := by decide +kernel
theorem dX12_moves_205 : decode cX12_moves 205 = .ok (.iload 5, 2) := by decide +kernel
theorem dX12_moves_207 : decode cX12_moves 207 = .ok (.iastore, 1) := by decide +kernel
theorem dX12_moves_208 : decode cX12_moves 208 = .ok (.aload_n 0, 1) := by decide +kernel
theorem dX12_moves_209 : decode cX12_moves 209 = .ok (.getfield 50, 3) := by decide +kernel
theorem dX12_moves_212 : decode cX12_moves 212 = .ok (.iconst 3, 1) := by decide +kernel
theorem dX12_moves_213 : decode cX12_moves 213 = .ok (.iload_n 1, 1) := by decide +kernel
theorem dX12_moves_214 : decode cX12_moves 214 = .ok (.imul, 1) := by decide +kernel
theorem dX12_moves_215 : decode cX12_moves 215 = .ok (.iconst 2, 1) := by decide +kernel
theorem dX12_moves_216 : decode cX12_moves 216 = .ok (.iadd, 1) := by decide +kernel
theorem dX12_moves_217 : decode cX12_moves 217 = .ok (.iload 6, 2) := by decide +kernel
theorem dX12_moves_219 : decode cX12_moves 219 = .ok (.iastore, 1) := by decide +kernel
theorem dX12_moves_220 : decode cX12_moves 220 = .ok (.iload 7, 2) := by decide +kernel
theorem dX12_moves_222 : decode cX12_moves 222 = .ok (.ireturn, 1) := by decide +kernel
def wb_X12_moves_177  (h : AH) (al0 : Nat) (xl1 : Int32) (xl4 : Int32) (xl5 : Int32) (xl6 : Int32) (xs0 : Int32) (post : AH → Int32 → Prop) : Prop := (¬ xs0 = 0 → ((ob h al0 11) ∧ (∃ rv1, aP h al0 24 = some rv1 ∧ ((ob h rv1 13) ∧ ((vp_in ((3 : Int32) * xl1) (aL h rv1)) ∧ (∀ hv2 : AH, hv2 = hI h rv1 ((3 : Int32) * xl1).toNatClampNeg xl4 → ((ob hv2 al0 11) ∧ (∃ rv3, aP hv2 al0 24 = some rv3 ∧ ((ob hv2 rv3 13) ∧ ((vp_in (((3 : Int32) * xl1) + (1 : Int32)) (aL hv2 rv3)) ∧ (∀ hv4 : AH, hv4 = hI hv2 rv3 (((3 : Int32) * xl1) + (1 : Int32)).toNatClampNeg xl5 → ((ob hv4 al0 11) ∧ (∃ rv5, aP hv4 al0 24 = some rv5 ∧ ((ob hv4 rv5 13) ∧ ((vp_in (((3 : Int32) * xl1) + (2 : Int32)) (aL hv4 rv5)) ∧ (∀ hv6 : AH, hv6 = hI hv4 rv5 (((3 : Int32) * xl1) + (2 : Int32)).toNatClampNeg xl6 → (post hv6 xs0))))))))))))))))) ∧ (xs0 = 0 → (post h 0))
set_option maxRecDepth 100000 in
theorem tb_X12_moves_177 {G : GG} {p : Program} {l : Launch} {e : Env} {R : Room} {s : State} {m : MethodId} {args : Array Value} {below : List Frame} {meth : Method} {c : Code} {n0 s0 : Nat} {post : AH → Int32 → Prop} (C : Cx G p R s m args meth c 8 cX12_moves RX12 n0 s0 3 71) (hr : meth.sig.returnType = (some .int))   {h : AH} {al0 : Nat} {xl1 : Int32} {xl4 : Int32} {xl5 : Int32} {xl6 : Int32} {xs0 : Int32} (hw : wb_X12_moves_177  h al0 xl1 xl4 xl5 xl6 xs0 post) : AW G p l e R s m args below meth c 8 (QM G (pI post) args s below n0 s0) 177 [(0, .ref (G.1 + al0)), (1, .int xl1), (4, .int xl4), (5, .int xl5), (6, .int xl6)] [.int xs0] h := by
  unfold wb_X12_moves_177 at hw
  refine r_istore C dX12_moves_177 [(7, .int xs0), (0, .ref (G.1 + al0)), (1, .int xl1), (4, .int xl4), (5, .int xl5), (6, .int xl6)] (by decide) rfl ?_
  refine r_iload C dX12_moves_179 0 rfl ?_
  refine r_if_ne C dX12_moves_181 186 (by decide) (fun hc => ?_) (fun hc => ?_)
  · replace hw := hw.1 hc
    refine r_aload_n C dX12_moves_186 1 rfl ?_
    have hob := hw.1
    obtain ⟨rv1, hp, hw⟩ := hw.2
    refine r_getP C fl_RX12_50_11 hob hp (fun _ _ _ => rfl) dX12_moves_187 ?_
    refine r_iconst (v := 3) C dX12_moves_190 (by decide) ?_
    refine r_iload_n C dX12_moves_191 2 rfl ?_
    refine r_imul C dX12_moves_192 ?_
    refine r_iload C dX12_moves_193 3 rfl ?_
    refine r_iastore C hw.1 hw.2.1 dX12_moves_195 ?_
    replace hw := hw.2.2
    refine r_toph fun hv2 ehv2 => ?_
    replace hw := hw hv2 ehv2
    refine r_aload_n C dX12_moves_196 1 rfl ?_
    have hob := hw.1
    obtain ⟨rv3, hp, hw⟩ := hw.2
    refine r_getP C fl_RX12_50_11 hob hp (fun _ _ _ => rfl) dX12_moves_197 ?_
    refine r_iconst (v := 3) C dX12_moves_200 (by decide) ?_
    refine r_iload_n C dX12_moves_201 2 rfl ?_
    refine r_imul C dX12_moves_202 ?_
    refine r_iconst (v := 1) C dX12_moves_203 (by decide) ?_
    refine r_iadd C dX12_moves_204 ?_
    refine r_iload C dX12_moves_205 4 rfl ?_
    refine r_iastore C hw.1 hw.2.1 dX12_moves_207 ?_
    replace hw := hw.2.2
    refine r_toph fun hv4 ehv4 => ?_
    replace hw := hw hv4 ehv4
    refine r_aload_n C dX12_moves_208 1 rfl ?_
    have hob := hw.1
    obtain ⟨rv5, hp, hw⟩ := hw.2
    refine r_getP C fl_RX12_50_11 hob hp (fun _ _ _ => rfl) dX12_moves_209 ?_
    refine r_iconst (v := 3) C dX12_moves_212 (by decide) ?_
    refine r_iload_n C dX12_moves_213 2 rfl ?_
    refine r_imul C dX12_moves_214 ?_
    refine r_iconst (v := 2) C dX12_moves_215 (by decide) ?_
    refine r_iadd C dX12_moves_216 ?_
    refine r_iload C dX12_moves_217 5 rfl ?_
    refine r_iastore C hw.1 hw.2.1 dX12_moves_219 ?_
    replace hw := hw.2.2
    refine r_toph fun hv6 ehv6 => ?_
    replace hw := hw hv6 ehv6
    refine r_iload C dX12_moves_220 0 rfl ?_
    exact r_iret C hr dX12_moves_222 hw
  · replace hw := hw.2 hc
    refine r_iconst (v := 0) C dX12_moves_184 (by decide) ?_
    exact r_iret C hr dX12_moves_185 hw
def wb_X12_moves_126  (h : AH) (al0 : Nat) (xl1 : Int32) (xl3 : Int32) (xl4 : Int32) (xl5 : Int32) (xl6 : Int32)  (post : AH → Int32 → Prop) : Prop := (ob h al0 11) ∧ wp_X12_isInside h al0 xl1 (fun hv1 iv2 => (¬ iv2 = 0 → ((ob hv1 al0 11) ∧ wp_X12_isOnAnother hv1 al0 xl1 (fun hv3 iv4 => (iv4 = 0 → ((ob hv3 al0 11) ∧ wp_X12_doesFloat hv3 al0 xl1 xl3 (fun hv5 iv6 => (¬ iv6 = 0 → ((ob hv5 al0 11) ∧ wp_X12_isTooFar hv5 al0 xl1 (fun hv7 iv8 => (iv8 = 0 → (wb_X12_moves_177  hv7 al0 xl1 xl4 xl5 xl6 0 post)) ∧ (¬ iv8 = 0 → (wb_X12_moves_177  hv7 al0 xl1 xl4 xl5 xl6 6 post))))) ∧ (iv6 = 0 → (wb_X12_moves_177  hv5 al0 xl1 xl4 xl5 xl6 5 post))))) ∧ (¬ iv4 = 0 → (wb_X12_moves_177  hv3 al0 xl1 xl4 xl5 xl6 4 post))))) ∧ (iv2 = 0 → (wb_X12_moves_177  hv1 al0 xl1 xl4 xl5 xl6 3 post)))
set_option maxRecDepth 100000 in
theorem tb_X12_moves_126 {G : GG} {p : Program} {l : Launch} {e : Env} {R : Room} {s : State} {m : MethodId} {args : Array Value} {below : List Frame} {meth : Method} {c : Code} {n0 s0 : Nat} {post : AH → Int32 → Prop} (C : Cx G p R s m args meth c 8 cX12_moves RX12 n0 s0 3 71) (hr : meth.sig.returnType = (some .int))   {h : AH} {al0 : Nat} {xl1 : Int32} {xl3 : Int32} {xl4 : Int32} {xl5 : Int32} {xl6 : Int32}  (hw : wb_X12_moves_126  h al0 xl1 xl3 xl4 xl5 xl6 post) : AW G p l e R s m args below meth c 8 (QM G (pI post) args s below n0 s0) 126 [(0, .ref (G.1 + al0)), (1, .int xl1), (3, .int xl3), (4, .int xl4), (5, .int xl5), (6, .int xl6)] [] h := by
  unfold wb_X12_moves_126 at hw
  refine r_aload_n C dX12_moves_126 0 rfl ?_
  refine r_iload_n C dX12_moves_127 1 rfl ?_
  have hob := hw.1
  replace hw := hw.2
  refine r_callV C (As := [.int xl1]) (rest := []) (c_X12_isInside G h al0 xl1 _ hw) yl_X12_isInside (gm8 (List.mem_of_getElem? (i := 81) rfl) rfl) (gm8 (List.mem_of_getElem? (i := 83) rfl) rfl) (ci := 11) rfl (by decide) (gsel (List.mem_of_getElem? (i := 74) rfl)) hob (by decide) rfl (Nat.le_of_ble_eq_true rfl) dX12_moves_128 rfl (kI fun hv1 iv2 hw => ?_)
  refine r_if_ne C dX12_moves_131 138 (by decide) (fun hc => ?_) (fun hc => ?_)
  · replace hw := hw.1 hc
    refine r_aload_n C dX12_moves_138 0 rfl ?_
    refine r_iload_n C dX12_moves_139 1 rfl ?_
    have hob := hw.1
    replace hw := hw.2
    refine r_callV C (As := [.int xl1]) (rest := []) (c_X12_isOnAnother G hv1 al0 xl1 _ hw) yl_X12_isOnAnother (gm8 (List.mem_of_getElem? (i := 85) rfl) rfl) (gm8 (List.mem_of_getElem? (i := 87) rfl) rfl) (ci := 11) rfl (by decide) (gsel (List.mem_of_getElem? (i := 75) rfl)) hob (by decide) rfl (Nat.le_of_ble_eq_true rfl) dX12_moves_140 rfl (kI fun hv3 iv4 hw => ?_)
    refine r_if_eq C dX12_moves_143 150 (by decide) (fun hc => ?_) (fun hc => ?_)
    · replace hw := hw.1 hc
      refine r_aload_n C dX12_moves_150 0 rfl ?_
      refine r_iload_n C dX12_moves_151 1 rfl ?_
      refine r_iload_n C dX12_moves_152 2 rfl ?_
      have hob := hw.1
      replace hw := hw.2
      refine r_callV C (As := [.int xl1, .int xl3]) (rest := []) (c_X12_doesFloat G hv3 al0 xl1 xl3 _ hw) yl_X12_doesFloat (gm8 (List.mem_of_getElem? (i := 101) rfl) rfl) (gm8 (List.mem_of_getElem? (i := 103) rfl) rfl) (ci := 11) rfl (by decide) (gsel (List.mem_of_getElem? (i := 78) rfl)) hob (by decide) rfl (Nat.le_of_ble_eq_true rfl) dX12_moves_153 rfl (kI fun hv5 iv6 hw => ?_)
      refine r_if_ne C dX12_moves_156 163 (by decide) (fun hc => ?_) (fun hc => ?_)
      · replace hw := hw.1 hc
        refine r_aload_n C dX12_moves_163 0 rfl ?_
        refine r_iload_n C dX12_moves_164 1 rfl ?_
        have hob := hw.1
        replace hw := hw.2
        refine r_callV C (As := [.int xl1]) (rest := []) (c_X12_isTooFar G hv5 al0 xl1 _ hw) yl_X12_isTooFar (gm8 (List.mem_of_getElem? (i := 133) rfl) rfl) (gm8 (List.mem_of_getElem? (i := 135) rfl) rfl) (ci := 11) rfl (by decide) (gsel (List.mem_of_getElem? (i := 82) rfl)) hob (by decide) rfl (Nat.le_of_ble_eq_true rfl) dX12_moves_165 rfl (kI fun hv7 iv8 hw => ?_)
        refine r_if_eq C dX12_moves_168 176 (by decide) (fun hc => ?_) (fun hc => ?_)
        · replace hw := hw.1 hc
          refine r_iconst (v := 0) C dX12_moves_176 (by decide) ?_
          refine r_sub [0, 1, 3, 4, 5] rfl ?_
          exact tb_X12_moves_177 C hr  hw
        · replace hw := hw.2 hc
          refine r_bipush (v := 6) C dX12_moves_171 (by decide) ?_
          refine r_goto C dX12_moves_173 177 (by decide) ?_
          refine r_sub [0, 1, 3, 4, 5] rfl ?_
          exact tb_X12_moves_177 C hr  hw
      · replace hw := hw.2 hc
        refine r_iconst (v := 5) C dX12_moves_159 (by decide) ?_
        refine r_goto C dX12_moves_160 177 (by decide) ?_
        refine r_sub [0, 1, 3, 4, 5] rfl ?_
        exact tb_X12_moves_177 C hr  hw
    · replace hw := hw.2 hc
      refine r_iconst (v := 4) C dX12_moves_146 (by decide) ?_
      refine r_goto C dX12_moves_147 177 (by decide) ?_
      refine r_sub [0, 1, 3, 4, 5] rfl ?_
      exact tb_X12_moves_177 C hr  hw
  · replace hw := hw.2 hc
    refine r_iconst (v := 3) C dX12_moves_134 (by decide) ?_
    refine r_goto C dX12_moves_135 177 (by decide) ?_
    refine r_sub [0, 1, 3, 4, 5] rfl ?_
    exact tb_X12_moves_177 C hr  hw
def wb_X12_moves_124  (h : AH) (al0 : Nat) (xl1 : Int32) (xl3 : Int32) (xl4 : Int32) (xl5 : Int32) (xl6 : Int32) (xs0 : Int32) (xs1 : Int32) (xs2 : Int32) (as3 : Nat) (post : AH → Int32 → Prop) : Prop := (ob h as3 13) ∧ ((vp_in xs2 (aL h as3)) ∧ (∀ hv1 : AH, hv1 = hI h as3 xs2.toNatClampNeg (xs1 + xs0) → (wb_X12_moves_126  hv1 al0 xl1 xl3 xl4 xl5 xl6 post)))
set_option maxRecDepth 100000 in
theorem tb_X12_moves_124 {G : GG} {p : Program} {l : Launch} {e : Env} {R : Room} {s : State} {m : MethodId} {args : Array Value} {below : List Frame} {meth : Method} {c : Code} {n0 s0 : Nat} {post : AH → Int32 → Prop} (C : Cx G p R s m args meth c 8 cX12_moves RX12 n0 s0 3 71) (hr : meth.sig.returnType = (some .int))   {h : AH} {al0 : Nat} {xl1 : Int32} {xl3 : Int32} {xl4 : Int32} {xl5 : Int32} {xl6 : Int32} {xs0 : Int32} {xs1 : Int32} {xs2 : Int32} {as3 : Nat} (hw : wb_X12_moves_124  h al0 xl1 xl3 xl4 xl5 xl6 xs0 xs1 xs2 as3 post) : AW G p l e R s m args below meth c 8 (QM G (pI post) args s below n0 s0) 124 [(0, .ref (G.1 + al0)), (1, .int xl1), (3, .int xl3), (4, .int xl4), (5, .int xl5), (6, .int xl6)] [.int xs0, .int xs1, .int xs2, .ref (G.1 + as3)] h := by
  unfold wb_X12_moves_124 at hw
  refine r_iadd C dX12_moves_124 ?_
  refine r_iastore C hw.1 hw.2.1 dX12_moves_125 ?_
  replace hw := hw.2.2
  refine r_toph fun hv1 ehv1 => ?_
  replace hw := hw hv1 ehv1
  refine r_sub [0, 1, 2, 3, 4, 5] rfl ?_
  exact tb_X12_moves_126 C hr  hw
def wb_X12_moves_93  (h : AH) (al0 : Nat) (xl1 : Int32) (xl2 : Int32) (xl3 : Int32) (xl4 : Int32) (xl5 : Int32) (xl6 : Int32) (xs0 : Int32) (xs1 : Int32) (xs2 : Int32) (as3 : Nat) (post : AH → Int32 → Prop) : Prop := (ob h as3 13) ∧ ((vp_in xs2 (aL h as3)) ∧ (∀ hv1 : AH, hv1 = hI h as3 xs2.toNatClampNeg (xs1 + xs0) → ((ob hv1 al0 11) ∧ (∃ rv2, aP hv1 al0 24 = some rv2 ∧ ((ob hv1 rv2 13) ∧ ((vp_in (((3 : Int32) * xl1) + (1 : Int32)) (aL hv1 rv2)) ∧ ((¬ xl2 = 2 → ((¬ xl2 = 0 → (wb_X12_moves_124  hv1 al0 xl1 xl3 xl4 xl5 xl6 0 (aI hv1 rv2 (((3 : Int32) * xl1) + (1 : Int32)).toNatClampNeg) (((3 : Int32) * xl1) + (1 : Int32)) rv2 post)) ∧ (xl2 = 0 → (wb_X12_moves_124  hv1 al0 xl1 xl3 xl4 xl5 xl6 (-1) (aI hv1 rv2 (((3 : Int32) * xl1) + (1 : Int32)).toNatClampNeg) (((3 : Int32) * xl1) + (1 : Int32)) rv2 post)))) ∧ (xl2 = 2 → (wb_X12_moves_124  hv1 al0 xl1 xl3 xl4 xl5 xl6 1 (aI hv1 rv2 (((3 : Int32) * xl1) + (1 : Int32)).toNatClampNeg) (((3 : Int32) * xl1) + (1 : Int32)) rv2 post)))))))))
set_option maxRecDepth 100000 in
theorem tb_X12_moves_93 {G : GG} {p : Program} {l : Launch} {e : Env} {R : Room} {s : State} {m : MethodId} {args : Array Value} {below : List Frame} {meth : Method} {c : Code} {n0 s0 : Nat} {post : AH → Int32 → Prop} (C : Cx G p R s m args meth c 8 cX12_moves RX12 n0 s0 3 71) (hr : meth.sig.returnType = (some .int))   {h : AH} {al0 : Nat} {xl1 : Int32} {xl2 : Int32} {xl3 : Int32} {xl4 : Int32} {xl5 : Int32} {xl6 : Int32} {xs0 : Int32} {xs1 : Int32} {xs2 : Int32} {as3 : Nat} (hw : wb_X12_moves_93  h al0 xl1 xl2 xl3 xl4 xl5 xl6 xs0 xs1 xs2 as3 post) : AW G p l e R s m args below meth c 8 (QM G (pI post) args s below n0 s0) 93 [(0, .ref (G.1 + al0)), (1, .int xl1), (2, .int xl2), (3, .int xl3), (4, .int xl4), (5, .int xl5), (6, .int xl6)] [.int xs0, .int xs1, .int xs2, .ref (G.1 + as3)] h := by
  unfold wb_X12_moves_93 at hw
  refine r_iadd C dX12_moves_93 ?_
  refine r_iastore C hw.1 hw.2.1 dX12_moves_94 ?_
  replace hw := hw.2.2
  refine r_toph fun hv1 ehv1 => ?_
  replace hw := hw hv1 ehv1
  refine r_aload_n C dX12_moves_95 0 rfl ?_
  have hob := hw.1
  obtain ⟨rv2, hp, hw⟩ := hw.2
  refine r_getP C fl_RX12_50_11 hob hp (fun _ _ _ => rfl) dX12_moves_96 ?_
  refine r_iconst (v := 3) C dX12_moves_99 (by decide) ?_
  refine r_iload_n C dX12_moves_100 1 rfl ?_
  refine r_imul C dX12_moves_101 ?_
  refine r_iconst (v := 1) C dX12_moves_102 (by decide) ?_
  refine r_iadd C dX12_moves_103 ?_
  refine r_dup2 C dX12_moves_104 rfl rfl ?_
  refine r_iaload C hw.1 hw.2.1 dX12_moves_105 ?_
  replace hw := hw.2.2
  refine r_iload_n C dX12_moves_106 2 rfl ?_
  refine r_iconst (v := 2) C dX12_moves_107 (by decide) ?_
  refine r_icmp_ne C dX12_moves_108 115 (by decide) (fun hc => ?_) (fun hc => ?_)
  · replace hw := hw.1 hc
    refine r_iload_n C dX12_moves_115 2 rfl ?_
    refine r_if_ne C dX12_moves_116 123 (by decide) (fun hc => ?_) (fun hc => ?_)
    · replace hw := hw.1 hc
      refine r_iconst (v := 0) C dX12_moves_123 (by decide) ?_
      refine r_sub [0, 1, 3, 4, 5, 6] rfl ?_
      exact tb_X12_moves_124 C hr  hw
    · replace hw := hw.2 hc
      refine r_iconst (v := (-1)) C dX12_moves_119 (by decide) ?_
      refine r_goto C dX12_moves_120 124 (by decide) ?_
      refine r_sub [0, 1, 3, 4, 5, 6] rfl ?_
      exact tb_X12_moves_124 C hr  hw
  · replace hw := hw.2 hc
    refine r_iconst (v := 1) C dX12_moves_111 (by decide) ?_
    refine r_goto C dX12_moves_112 124 (by decide) ?_
    refine r_sub [0, 1, 3, 4, 5, 6] rfl ?_
    exact tb_X12_moves_124 C hr  hw
def wb_X12_moves_60  (h : AH) (al0 : Nat) (xl1 : Int32) (xl2 : Int32) (xl3 : Int32) (xl4 : Int32) (xl5 : Int32) (xl6 : Int32)  (post : AH → Int32 → Prop) : Prop := (4 ≤ xl2 → (wb_X12_moves_126  h al0 xl1 xl3 xl4 xl5 xl6 post)) ∧ (¬ 4 ≤ xl2 → ((ob h al0 11) ∧ (∃ rv1, aP h al0 24 = some rv1 ∧ ((ob h rv1 13) ∧ ((vp_in ((3 : Int32) * xl1) (aL h rv1)) ∧ ((¬ xl2 = 1 → ((¬ xl2 = 3 → (wb_X12_moves_93  h al0 xl1 xl2 xl3 xl4 xl5 xl6 0 (aI h rv1 ((3 : Int32) * xl1).toNatClampNeg) ((3 : Int32) * xl1) rv1 post)) ∧ (xl2 = 3 → (wb_X12_moves_93  h al0 xl1 xl2 xl3 xl4 xl5 xl6 (-1) (aI h rv1 ((3 : Int32) * xl1).toNatClampNeg) ((3 : Int32) * xl1) rv1 post)))) ∧ (xl2 = 1 → (wb_X12_moves_93  h al0 xl1 xl2 xl3 xl4 xl5 xl6 1 (aI h rv1 ((3 : Int32) * xl1).toNatClampNeg) ((3 : Int32) * xl1) rv1 post))))))))
set_option maxRecDepth 100000 in
theorem tb_X12_moves_60 {G : GG} {p : Program} {l : Launch} {e : Env} {R : Room} {s : State} {m : MethodId} {args : Array Value} {below : List Frame} {meth : Method} {c : Code} {n0 s0 : Nat} {post : AH → Int32 → Prop} (C : Cx G p R s m args meth c 8 cX12_moves RX12 n0 s0 3 71) (hr : meth.sig.returnType = (some .int))   {h : AH} {al0 : Nat} {xl1 : Int32} {xl2 : Int32} {xl3 : Int32} {xl4 : Int32} {xl5 : Int32} {xl6 : Int32}  (hw : wb_X12_moves_60  h al0 xl1 xl2 xl3 xl4 xl5 xl6 post) : AW G p l e R s m args below meth c 8 (QM G (pI post) args s below n0 s0) 60 [(0, .ref (G.1 + al0)), (1, .int xl1), (2, .int xl2), (3, .int xl3), (4, .int xl4), (5, .int xl5), (6, .int xl6)] [] h := by
  unfold wb_X12_moves_60 at hw
  refine r_iload_n C dX12_moves_60 2 rfl ?_
  refine r_iconst (v := 4) C dX12_moves_61 (by decide) ?_
  refine r_icmp_ge C dX12_moves_62 126 (by decide) (fun hc => ?_) (fun hc => ?_)
  · replace hw := hw.1 hc
    refine r_sub [0, 1, 3, 4, 5, 6] rfl ?_
    exact tb_X12_moves_126 C hr  hw
  · replace hw := hw.2 hc
    refine r_aload_n C dX12_moves_65 0 rfl ?_
    have hob := hw.1
    obtain ⟨rv1, hp, hw⟩ := hw.2
    refine r_getP C fl_RX12_50_11 hob hp (fun _ _ _ => rfl) dX12_moves_66 ?_
    refine r_iconst (v := 3) C dX12_moves_69 (by decide) ?_
    refine r_iload_n C dX12_moves_70 1 rfl ?_
    refine r_imul C dX12_moves_71 ?_
    refine r_dup2 C dX12_moves_72 rfl rfl ?_
    refine r_iaload C hw.1 hw.2.1 dX12_moves_73 ?_
    replace hw := hw.2.2
    refine r_iload_n C dX12_moves_74 2 rfl ?_
    refine r_iconst (v := 1) C dX12_moves_75 (by decide) ?_
    refine r_icmp_ne C dX12_moves_76 83 (by decide) (fun hc => ?_) (fun hc => ?_)
    · replace hw := hw.1 hc
      refine r_iload_n C dX12_moves_83 2 rfl ?_
      refine r_iconst (v := 3) C dX12_moves_84 (by decide) ?_
      refine r_icmp_ne C dX12_moves_85 92 (by decide) (fun hc => ?_) (fun hc => ?_)
      · replace hw := hw.1 hc
        refine r_iconst (v := 0) C dX12_moves_92 (by decide) ?_
        refine r_sub [0, 1, 2, 3, 4, 5, 6] rfl ?_
        exact tb_X12_moves_93 C hr  hw
      · replace hw := hw.2 hc
        refine r_iconst (v := (-1)) C dX12_moves_88 (by decide) ?_
        refine r_goto C dX12_moves_89 93 (by decide) ?_
        refine r_sub [0, 1, 2, 3, 4, 5, 6] rfl ?_
        exact tb_X12_moves_93 C hr  hw
    · replace hw := hw.2 hc
      refine r_iconst (v := 1) C dX12_moves_79 (by decide) ?_
      refine r_goto C dX12_moves_80 93 (by decide) ?_
      refine r_sub [0, 1, 2, 3, 4, 5, 6] rfl ?_
      exact tb_X12_moves_93 C hr  hw
def wp_X12_moves (h : AH) (a0 : Nat) (x1 : Int32) (x2 : Int32) (x3 : Int32) (post : AH → Int32 → Prop) : Prop := (ob h a0 11) ∧ wp_X12_doesFloat h a0 x1 x3 (fun hv1 iv2 => (¬ iv2 = 0 → ((ob hv1 a0 11) ∧ (∃ rv3, aP hv1 a0 24 = some rv3 ∧ ((ob hv1 rv3 13) ∧ ((vp_in ((3 : Int32) * x1) (aL hv1 rv3)) ∧ (∀ iv4 : Int32, iv4 = aI hv1 rv3 ((3 : Int32) * x1).toNatClampNeg → ((ob hv1 a0 11) ∧ (∃ rv5, aP hv1 a0 24 = some rv5 ∧ ((ob hv1 rv5 13) ∧ ((vp_in (((3 : Int32) * x1) + (1 : Int32)) (aL hv1 rv5)) ∧ (∀ iv6 : Int32, iv6 = aI hv1 rv5 (((3 : Int32) * x1) + (1 : Int32)).toNatClampNeg → ((ob hv1 a0 11) ∧ (∃ rv7, aP hv1 a0 24 = some rv7 ∧ ((ob hv1 rv7 13) ∧ ((vp_in (((3 : Int32) * x1) + (2 : Int32)) (aL hv1 rv7)) ∧ (∀ iv8 : Int32, iv8 = aI hv1 rv7 (((3 : Int32) * x1) + (2 : Int32)).toNatClampNeg → ((¬ x2 = 4 → (wb_X12_moves_60  hv1 a0 x1 x2 x3 iv4 iv6 iv8 post)) ∧ (x2 = 4 → ((ob hv1 a0 11) ∧ wp_X12_turns hv1 a0 x1 (fun hv9 iv10 => (¬ iv10 = 0 → (wb_X12_moves_60  hv9 a0 x1 x2 x3 iv4 iv6 iv8 post)) ∧ (iv10 = 0 → (post hv9 2)))))))))))))))))))))) ∧ (iv2 = 0 → (post hv1 1)))
set_option maxRecDepth 100000 in
theorem c_X12_moves (G : GG) (h : AH) (a0 : Nat) (x1 : Int32) (x2 : Int32) (x3 : Int32) (post : AH → Int32 → Prop) (hw : wp_X12_moves h a0 x1 x2 x3 post) : MC G yX12_moves cX12_moves 8 (some .int) 3 71 h [.ref (G.1 + a0), .int x1, .int x2, .int x3] (pI post) := by
  refine MC.of (lv := [(0, .ref (G.1 + a0)), (1, .int x1), (2, .int x2), (3, .int x3)]) (by decide) (Nat.le_of_ble_eq_true rfl) rfl fun p l e R s m args below meth c C hr hnm => ?_
  unfold wp_X12_moves at hw
  refine r_aload_n C dX12_moves_0 0 rfl ?_
  refine r_iload_n C dX12_moves_1 1 rfl ?_
  refine r_iload_n C dX12_moves_2 3 rfl ?_
  have hob := hw.1
  replace hw := hw.2
  refine r_callV C (As := [.int x1, .int x3]) (rest := []) (c_X12_doesFloat G h a0 x1 x3 _ hw) yl_X12_doesFloat (gm8 (List.mem_of_getElem? (i := 101) rfl) rfl) (gm8 (List.mem_of_getElem? (i := 103) rfl) rfl) (ci := 11) rfl (by decide) (gsel (List.mem_of_getElem? (i := 78) rfl)) hob (by decide) rfl (Nat.le_of_ble_eq_true rfl) dX12_moves_3 rfl (kI fun hv1 iv2 hw => ?_)
  refine r_if_ne C dX12_moves_6 11 (by decide) (fun hc => ?_) (fun hc => ?_)
  · replace hw := hw.1 hc
    refine r_aload_n C dX12_moves_11 0 rfl ?_
    have hob := hw.1
    obtain ⟨rv3, hp, hw⟩ := hw.2
    refine r_getP C fl_RX12_50_11 hob hp (fun _ _ _ => rfl) dX12_moves_12 ?_
    refine r_iconst (v := 3) C dX12_moves_15 (by decide) ?_
    refine r_iload_n C dX12_moves_16 1 rfl ?_
    refine r_imul C dX12_moves_17 ?_
    refine r_iaload C hw.1 hw.2.1 dX12_moves_18 ?_
    replace hw := hw.2.2
    refine r_topi fun iv4 eiv4 => ?_
    replace hw := hw iv4 eiv4
    refine r_istore C dX12_moves_19 [(4, .int iv4), (0, .ref (G.1 + a0)), (1, .int x1), (2, .int x2), (3, .int x3)] (by decide) rfl ?_
    refine r_aload_n C dX12_moves_21 1 rfl ?_
    have hob := hw.1
    obtain ⟨rv5, hp, hw⟩ := hw.2
    refine r_getP C fl_RX12_50_11 hob hp (fun _ _ _ => rfl) dX12_moves_22 ?_
    refine r_iconst (v := 3) C dX12_moves_25 (by decide) ?_
    refine r_iload_n C dX12_moves_26 2 rfl ?_
    refine r_imul C dX12_moves_27 ?_
    refine r_iconst (v := 1) C dX12_moves_28 (by decide) ?_
    refine r_iadd C dX12_moves_29 ?_
    refine r_iaload C hw.1 hw.2.1 dX12_moves_30 ?_
    replace hw := hw.2.2
    refine r_topi fun iv6 eiv6 => ?_
    replace hw := hw iv6 eiv6
    refine r_istore C dX12_moves_31 [(5, .int iv6), (4, .int iv4), (0, .ref (G.1 + a0)), (1, .int x1), (2, .int x2), (3, .int x3)] (by decide) rfl ?_
    refine r_aload_n C dX12_moves_33 2 rfl ?_
    have hob := hw.1
    obtain ⟨rv7, hp, hw⟩ := hw.2
    refine r_getP C fl_RX12_50_11 hob hp (fun _ _ _ => rfl) dX12_moves_34 ?_
    refine r_iconst (v := 3) C dX12_moves_37 (by decide) ?_
    refine r_iload_n C dX12_moves_38 3 rfl ?_
    refine r_imul C dX12_moves_39 ?_
    refine r_iconst (v := 2) C dX12_moves_40 (by decide) ?_
    refine r_iadd C dX12_moves_41 ?_
    refine r_iaload C hw.1 hw.2.1 dX12_moves_42 ?_
    replace hw := hw.2.2
    refine r_topi fun iv8 eiv8 => ?_
    replace hw := hw iv8 eiv8
    refine r_istore C dX12_moves_43 [(6, .int iv8), (5, .int iv6), (4, .int iv4), (0, .ref (G.1 + a0)), (1, .int x1), (2, .int x2), (3, .int x3)] (by decide) rfl ?_
    refine r_iload_n C dX12_moves_45 5 rfl ?_
    refine r_iconst (v := 4) C dX12_moves_46 (by decide) ?_
    refine r_icmp_ne C dX12_moves_47 60 (by decide) (fun hc => ?_) (fun hc => ?_)
    · replace hw := hw.1 hc
      refine r_sub [3, 4, 5, 6, 2, 1, 0] rfl ?_
      exact tb_X12_moves_60 C hr  hw
    · replace hw := hw.2 hc
      refine r_aload_n C dX12_moves_50 3 rfl ?_
      refine r_iload_n C dX12_moves_51 4 rfl ?_
      have hob := hw.1
      replace hw := hw.2
      refine r_callV C (As := [.int x1]) (rest := []) (c_X12_turns G hv1 a0 x1 _ hw) yl_X12_turns (gm8 (List.mem_of_getElem? (i := 129) rfl) rfl) (gm8 (List.mem_of_getElem? (i := 131) rfl) rfl) (ci := 11) rfl (by decide) (gsel (List.mem_of_getElem? (i := 81) rfl)) hob (by decide) rfl (Nat.le_of_ble_eq_true rfl) dX12_moves_52 rfl (kI fun hv9 iv10 hw => ?_)
      refine r_if_ne C dX12_moves_55 60 (by decide) (fun hc => ?_) (fun hc => ?_)
      · replace hw := hw.1 hc
        refine r_sub [3, 4, 5, 6, 2, 1, 0] rfl ?_
        exact tb_X12_moves_60 C hr  hw
      · replace hw := hw.2 hc
        refine r_iconst (v := 2) C dX12_moves_58 (by decide) ?_
        exact r_iret C hr dX12_moves_59 hw
  · replace hw := hw.2 hc
    refine r_iconst (v := 1) C dX12_moves_9 (by decide) ?_
    exact r_iret C hr dX12_moves_10 hw
theorem dX12_move_0 : decode cX12_move 0 = .ok (.aload_n 0, 1) := by decide +kernel
theorem dX12_move_1 : decode cX12_move 1 = .ok (.iconst 0, 1) := by decide +kernel
theorem dX12_move_2 : decode cX12_move 2 = .ok (.putfield 1, 3) := by decide +kernel
theorem dX12_move_5 : decode cX12_move 5 = .ok (.aload_n 0, 1) := by decide +kernel
theorem dX12_move_6 : decode cX12_move 6 = .ok (.iload_n 1, 1) := by decide +kernel
theorem dX12_move_7 : decode cX12_move 7 = .ok (.invokevirtual 310, 3) := by decide +kernel
theorem dX12_move_10 : decode cX12_move 10 = .ok (.ifCond .eq 19, 3) := by decide +kernel
theorem dX12_move_13 : decode cX12_move 13 = .ok (.iload_n 2, 1) := by decide +kernel
theorem dX12_move_14 : decode cX12_move 14 = .ok (.iconst 0, 1) := by decide +kernel
theorem dX12_move_15 : decode cX12_move 15 = .ok (.iconst 4, 1) := by decide +kernel
theorem dX12_move_16 : decode cX12_move 16 = .ok (.invokestatic 196, 3) := by decide +kernel
theorem dX12_move_19 : decode cX12_move 19 = .ok (.ifCond .eq 10, 3) := by decide +kernel
theorem dX12_move_22 : decode cX12_move 22 = .ok (.iload_n 3, 1) := by decide +kernel
theorem dX12_move_23 : decode cX12_move 23 = .ok (.invokestatic 290, 3) := by decide +kernel
theorem dX12_move_26 : decode cX12_move 26 = .ok (.ifCond .ne 5, 3) := by decide +kernel
theorem dX12_move_29 : decode cX12_move 29 = .ok (.iconst (-1), 1) := by decide +kernel
theorem dX12_move_30 : decode cX12_move 30 = .ok (.ireturn, 1) := by decide +kernel
theorem dX12_move_31 : decode cX12_move 31 = .ok (.aload_n 0, 1) := by decide +kernel
theorem dX12_move_32 : decode cX12_move 32 = .ok (.invokevirtual 317, 3) := by decide +kernel
theorem dX12_move_35 : decode cX12_move 35 = .ok (.aload_n 0, 1) := by decide +kernel
theorem dX12_move_36 : decode cX12_move 36 = .ok (.iload_n 1, 1) := by decide +kernel
theorem dX12_move_37 : decode cX12_move 37 = .ok (.iload_n 2, 1) := by decide +kernel
theorem dX12_move_38 : decode cX12_move 38 = .ok (.iload_n 3, 1) := by decide +kernel
theorem dX12_move_39 : decode cX12_move 39 = .ok (.invokevirtual 350, 3) := by decide +kernel
theorem dX12_move_42 : decode cX12_move 42 = .ok (.istore 4, 2) := by decide +kernel
theorem dX12_move_44 : decode cX12_move 44 = .ok (.iload 4, 2) := by decide +kernel
theorem dX12_move_46 : decode cX12_move 46 = .ok (.ifCond .ne 7, 3) := by decide +kernel
theorem dX12_move_49 : decode cX12_move 49 = .ok (.aload_n 0, 1) := by decide +kernel
theorem dX12_move_50 : decode cX12_move 50 = .ok (.invokevirtual 335, 3) := by decide +kernel
theorem dX12_move_53 : decode cX12_move 53 = .ok (.iload 4, 2) := by decide +kernel
theorem dX12_move_55 : decode cX12_move 55 = .ok (.ireturn, 1) := by decide +kernel
def wp_X12_move (h : AH) (a0 : Nat) (x1 : Int32) (x2 : Int32) (x3 : Int32) (post : AH → Int32 → Prop) : Prop := (ob h a0 11) ∧ (∀ hv1 : AH, hv1 = hI h a0 0 0 → ((ob hv1 a0 11) ∧ wp_X12_isRaft hv1 a0 x1 (fun hv2 iv3 => (iv3 = 0 → (post hv2 (-1))) ∧ (¬ iv3 = 0 → (wp_X12_isIn hv2 x2 0 4 (fun hv4 iv5 => (iv5 = 0 → (post hv4 (-1))) ∧ (¬ iv5 = 0 → (wp_X12_isHour hv4 x3 (fun hv6 iv7 => (¬ iv7 = 0 → ((ob hv6 a0 11) ∧ wp_X12_asItIs hv6 a0  (fun hv8  => (ob hv8 a0 11) ∧ wp_X12_moves hv8 a0 x1 x2 x3 (fun hv9 iv10 => (¬ iv10 = 0 → (post hv9 iv10)) ∧ (iv10 = 0 → ((ob hv9 a0 11) ∧ wp_X12_keepTown hv9 a0  (fun hv11  => post hv11 iv10))))))) ∧ (iv7 = 0 → (post hv6 (-1))))))))))))
set_option maxRecDepth 100000 in
theorem c_X12_move (G : GG) (h : AH) (a0 : Nat) (x1 : Int32) (x2 : Int32) (x3 : Int32) (post : AH → Int32 → Prop) (hw : wp_X12_move h a0 x1 x2 x3 post) : MC G yX12_move cX12_move 5 (some .int) 4 98 h [.ref (G.1 + a0), .int x1, .int x2, .int x3] (pI post) := by
  refine MC.of (lv := [(0, .ref (G.1 + a0)), (1, .int x1), (2, .int x2), (3, .int x3)]) (by decide) (Nat.le_of_ble_eq_true rfl) rfl fun p l e R s m args below meth c C hr hnm => ?_
  unfold wp_X12_move at hw
  refine r_aload_n C dX12_move_0 0 rfl ?_
  refine r_iconst (v := 0) C dX12_move_1 (by decide) ?_
  refine r_putI C fp_RX12_1_11 hw.1 rfl dX12_move_2 ?_
  replace hw := hw.2
  refine r_toph fun hv1 ehv1 => ?_
  replace hw := hw hv1 ehv1
  refine r_aload_n C dX12_move_5 0 rfl ?_
  refine r_iload_n C dX12_move_6 1 rfl ?_
  have hob := hw.1
  replace hw := hw.2
  refine r_callV C (As := [.int x1]) (rest := []) (c_X12_isRaft G hv1 a0 x1 _ hw) yl_X12_isRaft (gm8 (List.mem_of_getElem? (i := 49) rfl) rfl) (gm8 (List.mem_of_getElem? (i := 51) rfl) rfl) (ci := 11) rfl (by decide) (gsel (List.mem_of_getElem? (i := 68) rfl)) hob (by decide) rfl (Nat.le_of_ble_eq_true rfl) dX12_move_7 rfl (kI fun hv2 iv3 hw => ?_)
  refine r_if_eq C dX12_move_10 29 (by decide) (fun hc => ?_) (fun hc => ?_)
  · replace hw := hw.1 hc
    refine r_iconst (v := (-1)) C dX12_move_29 (by decide) ?_
    exact r_iret C hr dX12_move_30 hw
  · replace hw := hw.2 hc
    refine r_iload_n C dX12_move_13 2 rfl ?_
    refine r_iconst (v := 0) C dX12_move_14 (by decide) ?_
    refine r_iconst (v := 4) C dX12_move_15 (by decide) ?_
    refine r_callS C (As := [.int x2, .int 0, .int 4]) (rest := []) (c_X12_isIn G hv2 x2 0 4 _ hw) yl_X12_isIn (gm7 (List.mem_of_getElem? (i := 189) rfl) rfl) (gm7 (List.mem_of_getElem? (i := 190) rfl) rfl) (by decide) rfl (Nat.le_of_ble_eq_true rfl) dX12_move_16 rfl (kI fun hv4 iv5 hw => ?_)
    refine r_if_eq C dX12_move_19 29 (by decide) (fun hc => ?_) (fun hc => ?_)
    · replace hw := hw.1 hc
      refine r_iconst (v := (-1)) C dX12_move_29 (by decide) ?_
      exact r_iret C hr dX12_move_30 hw
    · replace hw := hw.2 hc
      refine r_iload_n C dX12_move_22 3 rfl ?_
      refine r_callS C (As := [.int x3]) (rest := []) (c_X12_isHour G hv4 x3 _ hw) yl_X12_isHour (gm8 (List.mem_of_getElem? (i := 38) rfl) rfl) (gm8 (List.mem_of_getElem? (i := 39) rfl) rfl) (by decide) rfl (Nat.le_of_ble_eq_true rfl) dX12_move_23 rfl (kI fun hv6 iv7 hw => ?_)
      refine r_if_ne C dX12_move_26 31 (by decide) (fun hc => ?_) (fun hc => ?_)
      · replace hw := hw.1 hc
        refine r_aload_n C dX12_move_31 0 rfl ?_
        have hob := hw.1
        replace hw := hw.2
        refine r_callV C (As := []) (rest := []) (c_X12_asItIs G hv6 a0  _ hw) yl_X12_asItIs (gm8 (List.mem_of_getElem? (i := 57) rfl) rfl) (gm8 (List.mem_of_getElem? (i := 59) rfl) rfl) (ci := 11) rfl (by decide) (gsel (List.mem_of_getElem? (i := 70) rfl)) hob (by decide) rfl (Nat.le_of_ble_eq_true rfl) dX12_move_32 rfl (kV fun hv8  hw => ?_)
        refine r_aload_n C dX12_move_35 0 rfl ?_
        refine r_iload_n C dX12_move_36 1 rfl ?_
        refine r_iload_n C dX12_move_37 2 rfl ?_
        refine r_iload_n C dX12_move_38 3 rfl ?_
        have hob := hw.1
        replace hw := hw.2
        refine r_callV C (As := [.int x1, .int x2, .int x3]) (rest := []) (c_X12_moves G hv8 a0 x1 x2 x3 _ hw) yl_X12_moves (gm8 (List.mem_of_getElem? (i := 125) rfl) rfl) (gm8 (List.mem_of_getElem? (i := 127) rfl) rfl) (ci := 11) rfl (by decide) (gsel (List.mem_of_getElem? (i := 80) rfl)) hob (by decide) rfl (Nat.le_of_ble_eq_true rfl) dX12_move_39 rfl (kI fun hv9 iv10 hw => ?_)
        refine r_istore C dX12_move_42 [(4, .int iv10), (0, .ref (G.1 + a0)), (1, .int x1), (2, .int x2), (3, .int x3)] (by decide) rfl ?_
        refine r_iload C dX12_move_44 0 rfl ?_
        refine r_if_ne C dX12_move_46 53 (by decide) (fun hc => ?_) (fun hc => ?_)
        · replace hw := hw.1 hc
          refine r_iload C dX12_move_53 0 rfl ?_
          exact r_iret C hr dX12_move_55 hw
        · replace hw := hw.2 hc
          refine r_aload_n C dX12_move_49 1 rfl ?_
          have hob := hw.1
          replace hw := hw.2
          refine r_callV C (As := []) (rest := []) (c_X12_keepTown G hv9 a0  _ hw) yl_X12_keepTown (gm8 (List.mem_of_getElem? (i := 93) rfl) rfl) (gm8 (List.mem_of_getElem? (i := 95) rfl) rfl) (ci := 11) rfl (by decide) (gsel (List.mem_of_getElem? (i := 77) rfl)) hob (by decide) rfl (Nat.le_of_ble_eq_true rfl) dX12_move_50 rfl (kV fun hv11  hw => ?_)
          refine r_iload C dX12_move_53 0 rfl ?_
          exact r_iret C hr dX12_move_55 hw
      · replace hw := hw.2 hc
        refine r_iconst (v := (-1)) C dX12_move_29 (by decide) ?_
        exact r_iret C hr dX12_move_30 hw
