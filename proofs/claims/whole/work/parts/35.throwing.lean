theorem fl_RX11_144_1 : FL RX11 144 1 9 := ⟨RX1, RX1, TX1, 16, ci1, by decide, (gm1 (List.mem_of_getElem? (i := 192) rfl) rfl), Or.inl rfl⟩
theorem dX11_raft_0 : decode cX11_raft 0 = .ok (.aload_n 0, 1) := by decide +kernel
theorem dX11_raft_1 : decode cX11_raft 1 = .ok (.iload_n 1, 1) := by decide +kernel
theorem dX11_raft_2 : decode cX11_raft 2 = .ok (.invokevirtual 126, 3) := by decide +kernel
theorem dX11_raft_5 : decode cX11_raft 5 = .ok (.ifCond .eq 12, 3) := by decide +kernel
theorem dX11_raft_8 : decode cX11_raft 8 = .ok (.iload_n 2, 1) := by decide +kernel
theorem dX11_raft_9 : decode cX11_raft 9 = .ok (.ifCond .lt 8, 3) := by decide +kernel
theorem dX11_raft_12 : decode cX11_raft 12 = .ok (.iload_n 2, 1) := by decide +kernel
theorem dX11_raft_13 : decode cX11_raft 13 = .ok (.iconst 5, 1) := by decide +kernel
theorem dX11_raft_14 : decode cX11_raft 14 = .ok (.if_icmp .le 11, 3) := by decide +kernel
theorem dX11_raft_17 : decode cX11_raft 17 = .ok (.new 129, 3) := by decide +kernel
theorem dX11_raft_20 : decode cX11_raft 20 = .ok (.dup, 1) := by decide +kernel
theorem dX11_raft_21 : decode cX11_raft 21 = .ok (.invokespecial 131, 3) := by decide +kernel
theorem dX11_raft_24 : decode cX11_raft 24 = .ok (.athrow, 1) := by decide +kernel
theorem dX11_raft_25 : decode cX11_raft 25 = .ok (.aload_n 0, 1) := by decide +kernel
theorem dX11_raft_26 : decode cX11_raft 26 = .ok (.getfield 30, 3) := by decide +kernel
theorem dX11_raft_29 : decode cX11_raft 29 = .ok (.getfield 132, 3) := by decide +kernel
theorem dX11_raft_32 : decode cX11_raft 32 = .ok (.getfield 135, 3) := by decide +kernel
theorem dX11_raft_35 : decode cX11_raft 35 = .ok (.iload_n 1, 1) := by decide +kernel
theorem dX11_raft_36 : decode cX11_raft 36 = .ok (.iaload, 1) := by decide +kernel
theorem dX11_raft_37 : decode cX11_raft 37 = .ok (.istore_n 3, 1) := by decide +kernel
theorem dX11_raft_38 : decode cX11_raft 38 = .ok (.iload_n 2, 1) := by decide +kernel
theorem dX11_raft_39 : decode cX11_raft 39 = .ok (.tableswitch 84 0 4 #[33, 38, 45, 58, 71], 33) := by decide +kernel
theorem dX11_raft_72 : decode cX11_raft 72 = .ok (.iload_n 3, 1) := by decide +kernel
theorem dX11_raft_73 : decode cX11_raft 73 = .ok (.bipush 7, 2) := by decide +kernel
theorem dX11_raft_75 : decode cX11_raft 75 = .ok (.iand, 1) := by decide +kernel
theorem dX11_raft_76 : decode cX11_raft 76 = .ok (.ireturn, 1) := by decide +kernel
theorem dX11_raft_77 : decode cX11_raft 77 = .ok (.iload_n 3, 1) := by decide +kernel
theorem dX11_raft_78 : decode cX11_raft 78 = .ok (.iconst 3, 1) := by decide +kernel
theorem dX11_raft_79 : decode cX11_raft 79 = .ok (.ishr, 1) := by decide +kernel
theorem dX11_raft_80 : decode cX11_raft 80 = .ok (.bipush 7, 2) := by decide +kernel
theorem dX11_raft_82 : decode cX11_raft 82 = .ok (.iand, 1) := by decide +kernel
theorem dX11_raft_83 : decode cX11_raft 83 = .ok (.ireturn, 1) := by decide +kernel
theorem dX11_raft_84 : decode cX11_raft 84 = .ok (.aload_n 0, 1) := by decide +kernel
theorem dX11_raft_85 : decode cX11_raft 85 = .ok (.getfield 30, 3) := by decide +kernel
theorem dX11_raft_88 : decode cX11_raft 88 = .ok (.getfield 40, 3) := by decide +kernel
theorem dX11_raft_91 : decode cX11_raft 91 = .ok (.iload_n 1, 1) := by decide +kernel
theorem dX11_raft_92 : decode cX11_raft 92 = .ok (.iload_n 3, 1) := by decide +kernel
theorem dX11_raft_93 : decode cX11_raft 93 = .ok (.invokevirtual 138, 3) := by decide +kernel
theorem dX11_raft_96 : decode cX11_raft 96 = .ok (.ireturn, 1) := by decide +kernel
theorem dX11_raft_97 : decode cX11_raft 97 = .ok (.aload_n 0, 1) := by decide +kernel
theorem dX11_raft_98 : decode cX11_raft 98 = .ok (.getfield 30, 3) := by decide +kernel
theorem dX11_raft_101 : decode cX11_raft 101 = .ok (.getfield 40, 3) := by decide +kernel
theorem dX11_raft_104 : decode cX11_raft 104 = .ok (.iload_n 1, 1) := by decide +kernel
theorem dX11_raft_105 : decode cX11_raft 105 = .ok (.iload_n 3, 1) := by decide +kernel
theorem dX11_raft_106 : decode cX11_raft 106 = .ok (.invokevirtual 141, 3) := by decide +kernel
theorem dX11_raft_109 : decode cX11_raft 109 = .ok (.ireturn, 1) := by decide +kernel
theorem dX11_raft_110 : decode cX11_raft 110 = .ok (.aload_n 0, 1) := by decide +kernel
theorem dX11_raft_111 : decode cX11_raft 111 = .ok (.getfield 30, 3) := by decide +kernel
theorem dX11_raft_114 : decode cX11_raft 114 = .ok (.getfield 40, 3) := by decide +kernel
theorem dX11_raft_117 : decode cX11_raft 117 = .ok (.getfield 144, 3) := by decide +kernel
theorem dX11_raft_120 : decode cX11_raft 120 = .ok (.iload_n 1, 1) := by decide +kernel
theorem dX11_raft_121 : decode cX11_raft 121 = .ok (.iaload, 1) := by decide +kernel
theorem dX11_raft_122 : decode cX11_raft 122 = .ok (.ireturn, 1) := by decide +kernel
theorem dX11_raft_123 : decode cX11_raft 123 = .ok (.iload_n 3, 1) := by decide +kernel
theorem dX11_raft_124 : decode cX11_raft 124 = .ok (.bipush 6, 2) := by decide +kernel
theorem dX11_raft_126 : decode cX11_raft 126 = .ok (.ishr, 1) := by decide +kernel
theorem dX11_raft_127 : decode cX11_raft 127 = .ok (.ireturn, 1) := by decide +kernel
def wb_X11_raft_17  (h : AH)   (post : AH → Int32 → Prop) (px : AH → Prop) : Prop := (aN h < 601024 ∧ aS h + 6 ≤ 7293034) ∧ ∀ k, k ≤ 6 → px (hNew h 17 k)
set_option maxRecDepth 100000 in
theorem tb_X11_raft_17 {G : GG} {p : Program} {l : Launch} {e : Env} {R : Room} {s : State} {m : MethodId} {args : Array Value} {below : List Frame} {meth : Method} {c : Code} {n0 s0 : Nat} {post : AH → Int32 → Prop} {px : AH → Prop} (C : Cx G p R s m args meth c 4 cX11_raft RX11 n0 s0 6 81) (hr : meth.sig.returnType = (some .int)) (hlt : l.stackTraces = false) (hE : XE G s) {h0 : AH} (hR0 : Rep G h0 s.heap) (htab : ∀ x ∈ c.exceptionTable.toList, False)   {h : AH}   (hw : wb_X11_raft_17  h  post px) : AW G p l e R s m args below meth c 4 (QT G (pI post) px args s below n0 s0) 17 [] [] h := by
  unfold wb_X11_raft_17 at hw
  exact t_throw C hlt hE hR0 htab (gm6 (List.mem_of_getElem? (i := 107) rfl) rfl) (gm1 (List.mem_of_getElem? (i := 23) rfl) rfl) dX11_raft_17 dX11_raft_20 dX11_raft_21 dX11_raft_24 (by decide) hw.1 hw.2
def wp_X11_raft (h : AH) (a0 : Nat) (x1 : Int32) (x2 : Int32) (post : AH → Int32 → Prop) (px : AH → Prop) : Prop := (ob h a0 10) ∧ wp_X11_isRaft h a0 x1 (fun hv1 iv2 => (iv2 = 0 → (wb_X11_raft_17  hv1 post px)) ∧ (¬ iv2 = 0 → ((x2 < 0 → (wb_X11_raft_17  hv1 post px)) ∧ (¬ x2 < 0 → ((x2 ≤ 5 → ((ob hv1 a0 10) ∧ (∃ rv3, aP hv1 a0 5 = some rv3 ∧ ((ob hv1 rv3 5) ∧ (∃ rv4, aP hv1 rv3 1 = some rv4 ∧ ((ob hv1 rv4 7) ∧ (∃ rv5, aP hv1 rv4 1 = some rv5 ∧ ((ob hv1 rv5 13) ∧ ((vp_in x1 (aL hv1 rv5)) ∧ (∀ iv6 : Int32, iv6 = aI hv1 rv5 x1.toNatClampNeg → ((x2 = 0 → (post hv1 (iv6 &&& (7 : Int32)))) ∧ (x2 = 1 → (post hv1 ((iv6 >>> ((3 : Int32) &&& 31)) &&& (7 : Int32)))) ∧ (x2 = 2 → ((ob hv1 a0 10) ∧ (∃ rv7, aP hv1 a0 5 = some rv7 ∧ ((ob hv1 rv7 5) ∧ (∃ rv8, aP hv1 rv7 0 = some rv8 ∧ ((ob hv1 rv8 1) ∧ wp_X1_wideAt hv1 rv8 x1 iv6 (fun hv9 iv10 => post hv9 iv10))))))) ∧ (x2 = 3 → ((ob hv1 a0 10) ∧ (∃ rv11, aP hv1 a0 5 = some rv11 ∧ ((ob hv1 rv11 5) ∧ (∃ rv12, aP hv1 rv11 0 = some rv12 ∧ ((ob hv1 rv12 1) ∧ wp_X1_highAt hv1 rv12 x1 iv6 (fun hv13 iv14 => post hv13 iv14))))))) ∧ (x2 = 4 → ((ob hv1 a0 10) ∧ (∃ rv15, aP hv1 a0 5 = some rv15 ∧ ((ob hv1 rv15 5) ∧ (∃ rv16, aP hv1 rv15 0 = some rv16 ∧ ((ob hv1 rv16 1) ∧ (∃ rv17, aP hv1 rv16 9 = some rv17 ∧ ((ob hv1 rv17 13) ∧ ((vp_in x1 (aL hv1 rv17)) ∧ (post hv1 (aI hv1 rv17 x1.toNatClampNeg))))))))))) ∧ ((x2.toInt < 0 ∨ 4 < x2.toInt) → (post hv1 (iv6 >>> ((6 : Int32) &&& 31))))))))))))))) ∧ (¬ x2 ≤ 5 → (wb_X11_raft_17  hv1 post px)))))))
set_option maxRecDepth 100000 in
theorem c_X11_raft (G : GG) (h : AH) (a0 : Nat) (x1 : Int32) (x2 : Int32) (post : AH → Int32 → Prop) (px : AH → Prop) (hw : wp_X11_raft h a0 x1 x2 post px) : MT G yX11_raft cX11_raft 4 (some .int) 6 81 h [.ref (G.1 + a0), .int x1, .int x2] (pI post) px := by
  refine MT.of (lv := [(0, .ref (G.1 + a0)), (1, .int x1), (2, .int x2)]) (by decide) (Nat.le_of_ble_eq_true rfl) rfl fun p l e R s m args below meth c hlt C hE hR0 htab hr => ?_
  unfold wp_X11_raft at hw
  refine r_aload_n C dX11_raft_0 0 rfl ?_
  refine r_iload_n C dX11_raft_1 1 rfl ?_
  have hob := hw.1
  replace hw := hw.2
  refine r_callV C (As := [.int x1]) (rest := []) (c_X11_isRaft G h a0 x1 _ hw) yl_X11_isRaft (gm4 (List.mem_of_getElem? (i := 145) rfl) rfl) (gm4 (List.mem_of_getElem? (i := 147) rfl) rfl) (ci := 10) rfl (by decide) (gsel (List.mem_of_getElem? (i := 16) rfl)) hob (by decide) rfl (Nat.le_of_ble_eq_true rfl) dX11_raft_2 rfl (kI fun hv1 iv2 hw => ?_)
  refine r_if_eq C dX11_raft_5 17 (by decide) (fun hc => ?_) (fun hc => ?_)
  · replace hw := hw.1 hc
    refine r_sub [] rfl ?_
    exact tb_X11_raft_17 C hr hlt hE hR0 htab  hw
  · replace hw := hw.2 hc
    refine r_iload_n C dX11_raft_8 2 rfl ?_
    refine r_if_lt C dX11_raft_9 17 (by decide) (fun hc => ?_) (fun hc => ?_)
    · replace hw := hw.1 hc
      refine r_sub [] rfl ?_
      exact tb_X11_raft_17 C hr hlt hE hR0 htab  hw
    · replace hw := hw.2 hc
      refine r_iload_n C dX11_raft_12 2 rfl ?_
      refine r_iconst (v := 5) C dX11_raft_13 (by decide) ?_
      refine r_icmp_le C dX11_raft_14 25 (by decide) (fun hc => ?_) (fun hc => ?_)
      · replace hw := hw.1 hc
        refine r_aload_n C dX11_raft_25 0 rfl ?_
        have hob := hw.1
        obtain ⟨rv3, hp, hw⟩ := hw.2
        refine r_getP C fl_RX11_30_10 hob hp (fun _ _ _ => rfl) dX11_raft_26 ?_
        have hob := hw.1
        obtain ⟨rv4, hp, hw⟩ := hw.2
        refine r_getP C fl_RX11_132_5 hob hp (fun _ _ _ => rfl) dX11_raft_29 ?_
        have hob := hw.1
        obtain ⟨rv5, hp, hw⟩ := hw.2
        refine r_getP C fl_RX11_135_7 hob hp (fun _ _ _ => rfl) dX11_raft_32 ?_
        refine r_iload_n C dX11_raft_35 1 rfl ?_
        refine r_iaload C hw.1 hw.2.1 dX11_raft_36 ?_
        replace hw := hw.2.2
        refine r_topi fun iv6 eiv6 => ?_
        replace hw := hw iv6 eiv6
        refine r_istore_n C dX11_raft_37 [(3, .int iv6), (0, .ref (G.1 + a0)), (1, .int x1), (2, .int x2)] (by decide) rfl ?_
        refine r_iload_n C dX11_raft_38 3 rfl ?_
        by_cases hc0 : x2 = 0
        · replace hw := hw.1 hc0
          refine r_tableIn C dX11_raft_39 (by rw [hc0]; decide) (by rw [hc0]; decide) (by rw [hc0]; rfl) 72 (by decide) ?_
          refine r_iload_n C dX11_raft_72 0 rfl ?_
          refine r_bipush (v := 7) C dX11_raft_73 (by decide) ?_
          refine r_iand C dX11_raft_75 ?_
          exact t_iret C hr dX11_raft_76 hw
        by_cases hc1 : x2 = 1
        · replace hw := hw.2.1 hc1
          refine r_tableIn C dX11_raft_39 (by rw [hc1]; decide) (by rw [hc1]; decide) (by rw [hc1]; rfl) 77 (by decide) ?_
          refine r_iload_n C dX11_raft_77 0 rfl ?_
          refine r_iconst (v := 3) C dX11_raft_78 (by decide) ?_
          refine r_ishr C dX11_raft_79 ?_
          refine r_bipush (v := 7) C dX11_raft_80 (by decide) ?_
          refine r_iand C dX11_raft_82 ?_
          exact t_iret C hr dX11_raft_83 hw
        by_cases hc2 : x2 = 2
        · replace hw := hw.2.2.1 hc2
          refine r_tableIn C dX11_raft_39 (by rw [hc2]; decide) (by rw [hc2]; decide) (by rw [hc2]; rfl) 84 (by decide) ?_
          refine r_aload_n C dX11_raft_84 1 rfl ?_
          have hob := hw.1
          obtain ⟨rv7, hp, hw⟩ := hw.2
          refine r_getP C fl_RX11_30_10 hob hp (fun _ _ _ => rfl) dX11_raft_85 ?_
          have hob := hw.1
          obtain ⟨rv8, hp, hw⟩ := hw.2
          refine r_getP C fl_RX11_40_5 hob hp (fun _ _ _ => rfl) dX11_raft_88 ?_
          refine r_iload_n C dX11_raft_91 2 rfl ?_
          refine r_iload_n C dX11_raft_92 0 rfl ?_
          have hob := hw.1
          replace hw := hw.2
          refine r_callV C (As := [.int x1, .int iv6]) (rest := []) (c_X1_wideAt G hv1 rv8 x1 iv6 _ hw) yl_X1_wideAt (gm6 (List.mem_of_getElem? (i := 168) rfl) rfl) (gm3 (List.mem_of_getElem? (i := 211) rfl) rfl) (ci := 1) rfl (by decide) (gm3 (List.mem_of_getElem? (i := 212) rfl) rfl) hob (by decide) rfl (Nat.le_of_ble_eq_true rfl) dX11_raft_93 rfl (kI fun hv9 iv10 hw => ?_)
          exact t_iret C hr dX11_raft_96 hw
        by_cases hc3 : x2 = 3
        · replace hw := hw.2.2.2.1 hc3
          refine r_tableIn C dX11_raft_39 (by rw [hc3]; decide) (by rw [hc3]; decide) (by rw [hc3]; rfl) 97 (by decide) ?_
          refine r_aload_n C dX11_raft_97 1 rfl ?_
          have hob := hw.1
          obtain ⟨rv11, hp, hw⟩ := hw.2
          refine r_getP C fl_RX11_30_10 hob hp (fun _ _ _ => rfl) dX11_raft_98 ?_
          have hob := hw.1
          obtain ⟨rv12, hp, hw⟩ := hw.2
          refine r_getP C fl_RX11_40_5 hob hp (fun _ _ _ => rfl) dX11_raft_101 ?_
          refine r_iload_n C dX11_raft_104 2 rfl ?_
          refine r_iload_n C dX11_raft_105 0 rfl ?_
          have hob := hw.1
          replace hw := hw.2
          refine r_callV C (As := [.int x1, .int iv6]) (rest := []) (c_X1_highAt G hv1 rv12 x1 iv6 _ hw) yl_X1_highAt (gm6 (List.mem_of_getElem? (i := 169) rfl) rfl) (gm3 (List.mem_of_getElem? (i := 215) rfl) rfl) (ci := 1) rfl (by decide) (gm3 (List.mem_of_getElem? (i := 216) rfl) rfl) hob (by decide) rfl (Nat.le_of_ble_eq_true rfl) dX11_raft_106 rfl (kI fun hv13 iv14 hw => ?_)
          exact t_iret C hr dX11_raft_109 hw
        by_cases hc4 : x2 = 4
        · replace hw := hw.2.2.2.2.1 hc4
          refine r_tableIn C dX11_raft_39 (by rw [hc4]; decide) (by rw [hc4]; decide) (by rw [hc4]; rfl) 110 (by decide) ?_
          refine r_aload_n C dX11_raft_110 1 rfl ?_
          have hob := hw.1
          obtain ⟨rv15, hp, hw⟩ := hw.2
          refine r_getP C fl_RX11_30_10 hob hp (fun _ _ _ => rfl) dX11_raft_111 ?_
          have hob := hw.1
          obtain ⟨rv16, hp, hw⟩ := hw.2
          refine r_getP C fl_RX11_40_5 hob hp (fun _ _ _ => rfl) dX11_raft_114 ?_
          have hob := hw.1
          obtain ⟨rv17, hp, hw⟩ := hw.2
          refine r_getP C fl_RX11_144_1 hob hp (fun _ _ _ => rfl) dX11_raft_117 ?_
          refine r_iload_n C dX11_raft_120 2 rfl ?_
          refine r_iaload C hw.1 hw.2.1 dX11_raft_121 ?_
          replace hw := hw.2.2
          exact t_iret C hr dX11_raft_122 hw
        have hcd : x2.toInt < 0 ∨ 4 < x2.toInt := sw_out x2 4 (by decide) (fun k hk => match k, hk with | 0, _ => hc0 | 1, _ => hc1 | 2, _ => hc2 | 3, _ => hc3 | 4, _ => hc4 | k + 5, hk => absurd hk (by omega))
        replace hw := hw.2.2.2.2.2 hcd
        refine r_tableOut C dX11_raft_39 hcd 123 (by decide) ?_
        refine r_iload_n C dX11_raft_123 0 rfl ?_
        refine r_bipush (v := 6) C dX11_raft_124 (by decide) ?_
        refine r_ishr C dX11_raft_126 ?_
        exact t_iret C hr dX11_raft_127 hw
      · replace hw := hw.2 hc
        refine r_sub [] rfl ?_
        exact tb_X11_raft_17 C hr hlt hE hR0 htab  hw
theorem dX11_act_0 : decode cX11_act 0 = .ok (.iload_n 1, 1) := by decide +kernel
theorem dX11_act_1 : decode cX11_act 1 = .ok (.ifCond .lt 23, 3) := by decide +kernel
theorem dX11_act_4 : decode cX11_act 4 = .ok (.iload_n 1, 1) := by decide +kernel
theorem dX11_act_5 : decode cX11_act 5 = .ok (.aload_n 0, 1) := by decide +kernel
theorem dX11_act_6 : decode cX11_act 6 = .ok (.getfield 30, 3) := by decide +kernel
theorem dX11_act_9 : decode cX11_act 9 = .ok (.getfield 212, 3) := by decide +kernel
theorem dX11_act_12 : decode cX11_act 12 = .ok (.if_icmp .ge 12, 3) := by decide +kernel
theorem dX11_act_15 : decode cX11_act 15 = .ok (.iload_n 2, 1) := by decide +kernel
theorem dX11_act_16 : decode cX11_act 16 = .ok (.ifCond .lt 8, 3) := by decide +kernel
theorem dX11_act_19 : decode cX11_act 19 = .ok (.iload_n 2, 1) := by decide +kernel
theorem dX11_act_20 : decode cX11_act 20 = .ok (.iconst 1, 1) := by decide +kernel
theorem dX11_act_21 : decode cX11_act 21 = .ok (.if_icmp .le 11, 3) := by decide +kernel
theorem dX11_act_24 : decode cX11_act 24 = .ok (.new 129, 3) := by decide +kernel
theorem dX11_act_27 : decode cX11_act 27 = .ok (.dup, 1) := by decide +kernel
theorem dX11_act_28 : decode cX11_act 28 = .ok (.invokespecial 131, 3) := by decide +kernel
theorem dX11_act_31 : decode cX11_act 31 = .ok (.athrow, 1) := by decide +kernel
theorem dX11_act_32 : decode cX11_act 32 = .ok (.iload_n 2, 1) := by decide +kernel
theorem dX11_act_33 : decode cX11_act 33 = .ok (.ifCond .ne 15, 3) := by decide +kernel
theorem dX11_act_36 : decode cX11_act 36 = .ok (.aload_n 0, 1) := by decide +kernel
theorem dX11_act_37 : decode cX11_act 37 = .ok (.getfield 30, 3) := by decide +kernel
theorem dX11_act_40 : decode cX11_act 40 = .ok (.getfield 215, 3) := by decide +kernel
theorem dX11_act_43 : decode cX11_act 43 = .ok (.iload_n 1, 1) := by decide +kernel
theorem dX11_act_44 : decode cX11_act 44 = .ok (.iaload, 1) := by decide +kernel
theorem dX11_act_45 : decode cX11_act 45 = .ok (.goto 12, 3) := by decide +kernel
theorem dX11_act_48 : decode cX11_act 48 = .ok (.aload_n 0, 1) := by decide +kernel
theorem dX11_act_49 : decode cX11_act 49 = .ok (.getfield 30, 3) := by decide +kernel
theorem dX11_act_52 : decode cX11_act 52 = .ok (.getfield 216, 3) := by decide +kernel
theorem dX11_act_55 : decode cX11_act 55 = .ok (.iload_n 1, 1) := by decide +kernel
theorem dX11_act_56 : decode cX11_act 56 = .ok (.iaload, 1) := by decide +kernel
theorem dX11_act_57 : decode cX11_act 57 = .ok (.ireturn, 1) := by decide +kernel
def wb_X11_act_24  (h : AH)   (post : AH → Int32 → Prop) (px : AH → Prop) : Prop := (aN h < 601024 ∧ aS h + 6 ≤ 7293034) ∧ ∀ k, k ≤ 6 → px (hNew h 17 k)
set_option maxRecDepth 100000 in
theorem tb_X11_act_24 {G : GG} {p : Program} {l : Launch} {e : Env} {R : Room} {s : State} {m : MethodId} {args : Array Value} {below : List Frame} {meth : Method} {c : Code} {n0 s0 : Nat} {post : AH → Int32 → Prop} {px : AH → Prop} (C : Cx G p R s m args meth c 3 cX11_act RX11 n0 s0 6 81) (hr : meth.sig.returnType = (some .int)) (hlt : l.stackTraces = false) (hE : XE G s) {h0 : AH} (hR0 : Rep G h0 s.heap) (htab : ∀ x ∈ c.exceptionTable.toList, False)   {h : AH}   (hw : wb_X11_act_24  h  post px) : AW G p l e R s m args below meth c 3 (QT G (pI post) px args s below n0 s0) 24 [] [] h := by
  unfold wb_X11_act_24 at hw
  exact t_throw C hlt hE hR0 htab (gm6 (List.mem_of_getElem? (i := 107) rfl) rfl) (gm1 (List.mem_of_getElem? (i := 23) rfl) rfl) dX11_act_24 dX11_act_27 dX11_act_28 dX11_act_31 (by decide) hw.1 hw.2
def wp_X11_act (h : AH) (a0 : Nat) (x1 : Int32) (x2 : Int32) (post : AH → Int32 → Prop) (px : AH → Prop) : Prop := (x1 < 0 → (wb_X11_act_24  h post px)) ∧ (¬ x1 < 0 → ((ob h a0 10) ∧ (∃ rv1, aP h a0 5 = some rv1 ∧ ((ob h rv1 5) ∧ (((aI h rv1 2) ≤ x1 → (wb_X11_act_24  h post px)) ∧ (¬ (aI h rv1 2) ≤ x1 → ((x2 < 0 → (wb_X11_act_24  h post px)) ∧ (¬ x2 < 0 → ((x2 ≤ 1 → ((¬ x2 = 0 → ((ob h a0 10) ∧ (∃ rv2, aP h a0 5 = some rv2 ∧ ((ob h rv2 5) ∧ (∃ rv3, aP h rv2 4 = some rv3 ∧ ((ob h rv3 13) ∧ ((vp_in x1 (aL h rv3)) ∧ (post h (aI h rv3 x1.toNatClampNeg))))))))) ∧ (x2 = 0 → ((ob h a0 10) ∧ (∃ rv4, aP h a0 5 = some rv4 ∧ ((ob h rv4 5) ∧ (∃ rv5, aP h rv4 3 = some rv5 ∧ ((ob h rv5 13) ∧ ((vp_in x1 (aL h rv5)) ∧ (post h (aI h rv5 x1.toNatClampNeg))))))))))) ∧ (¬ x2 ≤ 1 → (wb_X11_act_24  h post px)))))))))))
set_option maxRecDepth 100000 in
theorem c_X11_act (G : GG) (h : AH) (a0 : Nat) (x1 : Int32) (x2 : Int32) (post : AH → Int32 → Prop) (px : AH → Prop) (hw : wp_X11_act h a0 x1 x2 post px) : MT G yX11_act cX11_act 3 (some .int) 6 81 h [.ref (G.1 + a0), .int x1, .int x2] (pI post) px := by
  refine MT.of (lv := [(0, .ref (G.1 + a0)), (1, .int x1), (2, .int x2)]) (by decide) (Nat.le_of_ble_eq_true rfl) rfl fun p l e R s m args below meth c hlt C hE hR0 htab hr => ?_
  unfold wp_X11_act at hw
  refine r_iload_n C dX11_act_0 1 rfl ?_
  refine r_if_lt C dX11_act_1 24 (by decide) (fun hc => ?_) (fun hc => ?_)
  · replace hw := hw.1 hc
    refine r_sub [] rfl ?_
    exact tb_X11_act_24 C hr hlt hE hR0 htab  hw
  · replace hw := hw.2 hc
    refine r_iload_n C dX11_act_4 1 rfl ?_
    refine r_aload_n C dX11_act_5 0 rfl ?_
    have hob := hw.1
    obtain ⟨rv1, hp, hw⟩ := hw.2
    refine r_getP C fl_RX11_30_10 hob hp (fun _ _ _ => rfl) dX11_act_6 ?_
    refine r_getI C fl_RX11_212_5 hw.1 (fun _ _ _ => rfl) dX11_act_9 ?_
    replace hw := hw.2
    refine r_icmp_ge C dX11_act_12 24 (by decide) (fun hc => ?_) (fun hc => ?_)
    · replace hw := hw.1 hc
      refine r_sub [] rfl ?_
      exact tb_X11_act_24 C hr hlt hE hR0 htab  hw
    · replace hw := hw.2 hc
      refine r_iload_n C dX11_act_15 2 rfl ?_
      refine r_if_lt C dX11_act_16 24 (by decide) (fun hc => ?_) (fun hc => ?_)
      · replace hw := hw.1 hc
        refine r_sub [] rfl ?_
        exact tb_X11_act_24 C hr hlt hE hR0 htab  hw
      · replace hw := hw.2 hc
        refine r_iload_n C dX11_act_19 2 rfl ?_
        refine r_iconst (v := 1) C dX11_act_20 (by decide) ?_
        refine r_icmp_le C dX11_act_21 32 (by decide) (fun hc => ?_) (fun hc => ?_)
        · replace hw := hw.1 hc
          refine r_iload_n C dX11_act_32 2 rfl ?_
          refine r_if_ne C dX11_act_33 48 (by decide) (fun hc => ?_) (fun hc => ?_)
          · replace hw := hw.1 hc
            refine r_aload_n C dX11_act_48 0 rfl ?_
            have hob := hw.1
            obtain ⟨rv2, hp, hw⟩ := hw.2
            refine r_getP C fl_RX11_30_10 hob hp (fun _ _ _ => rfl) dX11_act_49 ?_
            have hob := hw.1
            obtain ⟨rv3, hp, hw⟩ := hw.2
            refine r_getP C fl_RX11_216_5 hob hp (fun _ _ _ => rfl) dX11_act_52 ?_
            refine r_iload_n C dX11_act_55 1 rfl ?_
            refine r_iaload C hw.1 hw.2.1 dX11_act_56 ?_
            replace hw := hw.2.2
            exact t_iret C hr dX11_act_57 hw
          · replace hw := hw.2 hc
            refine r_aload_n C dX11_act_36 0 rfl ?_
            have hob := hw.1
            obtain ⟨rv4, hp, hw⟩ := hw.2
            refine r_getP C fl_RX11_30_10 hob hp (fun _ _ _ => rfl) dX11_act_37 ?_
            have hob := hw.1
            obtain ⟨rv5, hp, hw⟩ := hw.2
            refine r_getP C fl_RX11_215_5 hob hp (fun _ _ _ => rfl) dX11_act_40 ?_
            refine r_iload_n C dX11_act_43 1 rfl ?_
            refine r_iaload C hw.1 hw.2.1 dX11_act_44 ?_
            replace hw := hw.2.2
            refine r_goto C dX11_act_45 57 (by decide) ?_
            exact t_iret C hr dX11_act_57 hw
        · replace hw := hw.2 hc
          refine r_sub [] rfl ?_
          exact tb_X11_act_24 C hr hlt hE hR0 htab  hw
