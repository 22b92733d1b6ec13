theorem yl_X12_isDriven : YL yX12_isDriven cX12_isDriven 8 (some .boolean) 3 := ⟨(gm9 (List.mem_of_getElem? (i := 48) rfl) rfl), (gm1 (List.mem_of_getElem? (i := 18) rfl) rfl), by decide, by decide, by decide +kernel⟩
theorem yl_X12_count1 : YL yX12_count1 cX12_count1 3 (some .int) 1 := ⟨(gm9 (List.mem_of_getElem? (i := 59) rfl) rfl), (gm1 (List.mem_of_getElem? (i := 18) rfl) rfl), by decide, by decide, by decide +kernel⟩
theorem fl_RX12_105_11 : FL RX12 105 11 50 := ⟨RX12, RX12, TX12, 53, ci11, by decide, (gm7 (List.mem_of_getElem? (i := 32) rfl) rfl), Or.inl rfl⟩
theorem fl_RX12_111_11 : FL RX12 111 11 52 := ⟨RX12, RX12, TX12, 53, ci11, by decide, (gm7 (List.mem_of_getElem? (i := 34) rfl) rfl), Or.inl rfl⟩
theorem fl_RX12_108_11 : FL RX12 108 11 51 := ⟨RX12, RX12, TX12, 53, ci11, by decide, (gm7 (List.mem_of_getElem? (i := 33) rfl) rfl), Or.inl rfl⟩
theorem dX12_storm_0 : decode cX12_storm 0 = .ok (.aload_n 0, 1) := by decide +kernel
theorem dX12_storm_1 : decode cX12_storm 1 = .ok (.iconst 0, 1) := by decide +kernel
theorem dX12_storm_2 : decode cX12_storm 2 = .ok (.putfield 1, 3) := by decide +kernel
theorem dX12_storm_5 : decode cX12_storm 5 = .ok (.iload_n 1, 1) := by decide +kernel
theorem dX12_storm_6 : decode cX12_storm 6 = .ok (.iconst 0, 1) := by decide +kernel
theorem dX12_storm_7 : decode cX12_storm 7 = .ok (.bipush 99, 2) := by decide +kernel
theorem dX12_storm_9 : decode cX12_storm 9 = .ok (.invokestatic 196, 3) := by decide +kernel
theorem dX12_storm_12 : decode cX12_storm 12 = .ok (.ifCond .ne 5, 3) := by decide +kernel
theorem dX12_storm_15 : decode cX12_storm 15 = .ok (.iconst (-1), 1) := by decide +kernel
theorem dX12_storm_16 : decode cX12_storm 16 = .ok (.ireturn, 1) := by decide +kernel
theorem dX12_storm_17 : decode cX12_storm 17 = .ok (.iconst 0, 1) := by decide +kernel
theorem dX12_storm_18 : decode cX12_storm 18 = .ok (.istore_n 2, 1) := by decide +kernel
theorem dX12_storm_19 : decode cX12_storm 19 = .ok (.iconst 0, 1) := by decide +kernel
theorem dX12_storm_20 : decode cX12_storm 20 = .ok (.istore_n 3, 1) := by decide +kernel
theorem dX12_storm_21 : decode cX12_storm 21 = .ok (.iload_n 3, 1) := by decide +kernel
theorem dX12_storm_22 : decode cX12_storm 22 = .ok (.aload_n 0, 1) := by decide +kernel
theorem dX12_storm_23 : decode cX12_storm 23 = .ok (.getfield 33, 3) := by decide +kernel
theorem dX12_storm_26 : decode cX12_storm 26 = .ok (.iconst 2, 1) := by decide +kernel
theorem dX12_storm_27 : decode cX12_storm 27 = .ok (.iaload, 1) := by decide +kernel
theorem dX12_storm_28 : decode cX12_storm 28 = .ok (.if_icmp .ge 29, 3) := by decide +kernel
theorem dX12_storm_31 : decode cX12_storm 31 = .ok (.iload_n 2, 1) := by decide +kernel
theorem dX12_storm_32 : decode cX12_storm 32 = .ok (.aload_n 0, 1) := by decide +kernel
theorem dX12_storm_33 : decode cX12_storm 33 = .ok (.iload_n 3, 1) := by decide +kernel
theorem dX12_storm_34 : decode cX12_storm 34 = .ok (.iload_n 1, 1) := by decide +kernel
theorem dX12_storm_35 : decode cX12_storm 35 = .ok (.iconst 0, 1) := by decide +kernel
theorem dX12_storm_36 : decode cX12_storm 36 = .ok (.invokevirtual 441, 3) := by decide +kernel
theorem dX12_storm_39 : decode cX12_storm 39 = .ok (.ifCond .eq 9, 3) := by decide +kernel
theorem dX12_storm_42 : decode cX12_storm 42 = .ok (.iconst 1, 1) := by decide +kernel
theorem dX12_storm_43 : decode cX12_storm 43 = .ok (.iload_n 3, 1) := by decide +kernel
theorem dX12_storm_44 : decode cX12_storm 44 = .ok (.ishl, 1) := by decide +kernel
theorem dX12_storm_45 : decode cX12_storm 45 = .ok (.goto 4, 3) := by decide +kernel
theorem dX12_storm_48 : decode cX12_storm 48 = .ok (.iconst 0, 1) := by decide +kernel
theorem dX12_storm_49 : decode cX12_storm 49 = .ok (.ior, 1) := by decide +kernel
theorem dX12_storm_50 : decode cX12_storm 50 = .ok (.istore_n 2, 1) := by decide +kernel
theorem dX12_storm_51 : decode cX12_storm 51 = .ok (.iinc 3 1, 3) := by decide +kernel
theorem dX12_storm_54 : decode cX12_storm 54 = .ok (.goto (-33), 3) := by decide +kernel
theorem dX12_storm_57 : decode cX12_storm 57 = .ok (.iload_n 2, 1) := by decide +kernel
theorem dX12_storm_58 : decode cX12_storm 58 = .ok (.ireturn, 1) := by decide +kernel
def wb_X12_storm_49 (K21 : AH → Nat → Int32 → Int32 → Int32 → Prop) (h : AH) (al0 : Nat) (xl1 : Int32) (xl3 : Int32) (xs0 : Int32) (xs1 : Int32) (post : AH → Int32 → Prop) : Prop := ∀ iv1 : Int32, iv1 = xs1 ||| xs0 → (∀ iv2 : Int32, iv2 = xl3 + 1 → (K21 h al0 xl1 iv1 iv2))
set_option maxRecDepth 100000 in
theorem tb_X12_storm_49 {G : GG} {p : Program} {l : Launch} {e : Env} {R : Room} {s : State} {m : MethodId} {args : Array Value} {below : List Frame} {meth : Method} {c : Code} {n0 s0 : Nat} {post : AH → Int32 → Prop} (C : Cx G p R s m args meth c 4 cX12_storm RX12 n0 s0 3 75) (hr : meth.sig.returnType = (some .int)) {K21 : AH → Nat → Int32 → Int32 → Int32 → Prop} (hK21 : ∀ (h : AH) (al0 : Nat) (xl1 : Int32) (xl2 : Int32) (xl3 : Int32), K21 h al0 xl1 xl2 xl3 → AW G p l e R s m args below meth c 4 (QM G (pI post) args s below n0 s0) 21 [(0, .ref (G.1 + al0)), (1, .int xl1), (2, .int xl2), (3, .int xl3)] [] h) {h : AH} {al0 : Nat} {xl1 : Int32} {xl3 : Int32} {xs0 : Int32} {xs1 : Int32} (hw : wb_X12_storm_49 K21 h al0 xl1 xl3 xs0 xs1 post) : AW G p l e R s m args below meth c 4 (QM G (pI post) args s below n0 s0) 49 [(0, .ref (G.1 + al0)), (1, .int xl1), (3, .int xl3)] [.int xs0, .int xs1] h := by
  unfold wb_X12_storm_49 at hw
  refine r_ior C dX12_storm_49 ?_
  refine r_topi fun iv1 eiv1 => ?_
  replace hw := hw iv1 eiv1
  refine r_istore_n C dX12_storm_50 [(2, .int iv1), (0, .ref (G.1 + al0)), (1, .int xl1), (3, .int xl3)] (by decide) rfl ?_
  obtain ⟨iv2, eiv2⟩ : ∃ q : Int32, q = xl3 + 1 := ⟨_, rfl⟩
  replace hw := hw iv2 eiv2
  refine r_iinc C dX12_storm_51 3 rfl (by rw [eiv2]; rfl) [(3, .int iv2), (2, .int iv1), (0, .ref (G.1 + al0)), (1, .int xl1)] (by decide) rfl ?_
  refine r_goto C dX12_storm_54 21 (by decide) ?_
  refine r_sub [2, 3, 1, 0] rfl ?_
  exact hK21 _ _ _ _ _ hw
def wb_X12_storm_21 (K21 : AH → Nat → Int32 → Int32 → Int32 → Prop) (h : AH) (al0 : Nat) (xl1 : Int32) (xl2 : Int32) (xl3 : Int32)  (post : AH → Int32 → Prop) : Prop := (ob h al0 11) ∧ (∃ rv1, aP h al0 6 = some rv1 ∧ ((ob h rv1 13) ∧ ((vp_in 2 (aL h rv1)) ∧ (((aI h rv1 (2 : Int32).toNatClampNeg) ≤ xl3 → (post h xl2)) ∧ (¬ (aI h rv1 (2 : Int32).toNatClampNeg) ≤ xl3 → ((ob h al0 11) ∧ wp_X12_isDriven h al0 xl3 xl1 0 (fun hv2 iv3 => (iv3 = 0 → (wb_X12_storm_49 K21 hv2 al0 xl1 xl3 0 xl2 post)) ∧ (¬ iv3 = 0 → (wb_X12_storm_49 K21 hv2 al0 xl1 xl3 ((1 : Int32) <<< (xl3 &&& 31)) xl2 post)))))))))
set_option maxRecDepth 100000 in
theorem tb_X12_storm_21 {G : GG} {p : Program} {l : Launch} {e : Env} {R : Room} {s : State} {m : MethodId} {args : Array Value} {below : List Frame} {meth : Method} {c : Code} {n0 s0 : Nat} {post : AH → Int32 → Prop} (C : Cx G p R s m args meth c 4 cX12_storm RX12 n0 s0 3 75) (hr : meth.sig.returnType = (some .int)) {K21 : AH → Nat → Int32 → Int32 → Int32 → Prop} (hK21 : ∀ (h : AH) (al0 : Nat) (xl1 : Int32) (xl2 : Int32) (xl3 : Int32), K21 h al0 xl1 xl2 xl3 → AW G p l e R s m args below meth c 4 (QM G (pI post) args s below n0 s0) 21 [(0, .ref (G.1 + al0)), (1, .int xl1), (2, .int xl2), (3, .int xl3)] [] h) {h : AH} {al0 : Nat} {xl1 : Int32} {xl2 : Int32} {xl3 : Int32}  (hw : wb_X12_storm_21 K21 h al0 xl1 xl2 xl3 post) : AW G p l e R s m args below meth c 4 (QM G (pI post) args s below n0 s0) 21 [(0, .ref (G.1 + al0)), (1, .int xl1), (2, .int xl2), (3, .int xl3)] [] h := by
  unfold wb_X12_storm_21 at hw
  refine r_iload_n C dX12_storm_21 3 rfl ?_
  refine r_aload_n C dX12_storm_22 0 rfl ?_
  have hob := hw.1
  obtain ⟨rv1, hp, hw⟩ := hw.2
  refine r_getP C fl_RX12_33_11 hob hp (fun _ _ _ => rfl) dX12_storm_23 ?_
  refine r_iconst (v := 2) C dX12_storm_26 (by decide) ?_
  refine r_iaload C hw.1 hw.2.1 dX12_storm_27 ?_
  replace hw := hw.2.2
  refine r_icmp_ge C dX12_storm_28 57 (by decide) (fun hc => ?_) (fun hc => ?_)
  · replace hw := hw.1 hc
    refine r_iload_n C dX12_storm_57 2 rfl ?_
    exact r_iret C hr dX12_storm_58 hw
  · replace hw := hw.2 hc
    refine r_iload_n C dX12_storm_31 2 rfl ?_
    refine r_aload_n C dX12_storm_32 0 rfl ?_
    refine r_iload_n C dX12_storm_33 3 rfl ?_
    refine r_iload_n C dX12_storm_34 1 rfl ?_
    refine r_iconst (v := 0) C dX12_storm_35 (by decide) ?_
    have hob := hw.1
    replace hw := hw.2
    refine r_callV C (As := [.int xl3, .int xl1, .int 0]) (rest := [.int xl2]) (c_X12_isDriven G h al0 xl3 xl1 0 _ hw) yl_X12_isDriven (gm9 (List.mem_of_getElem? (i := 45) rfl) rfl) (gm9 (List.mem_of_getElem? (i := 47) rfl) rfl) (ci := 11) rfl (by decide) (gsel (List.mem_of_getElem? (i := 101) rfl)) hob (by decide) rfl (Nat.le_of_ble_eq_true rfl) dX12_storm_36 rfl (kI fun hv2 iv3 hw => ?_)
    refine r_if_eq C dX12_storm_39 48 (by decide) (fun hc => ?_) (fun hc => ?_)
    · replace hw := hw.1 hc
      refine r_iconst (v := 0) C dX12_storm_48 (by decide) ?_
      refine r_sub [0, 1, 3] rfl ?_
      exact tb_X12_storm_49 C hr hK21 hw
    · replace hw := hw.2 hc
      refine r_iconst (v := 1) C dX12_storm_42 (by decide) ?_
      refine r_iload_n C dX12_storm_43 3 rfl ?_
      refine r_ishl C dX12_storm_44 ?_
      refine r_goto C dX12_storm_45 49 (by decide) ?_
      refine r_sub [0, 1, 3] rfl ?_
      exact tb_X12_storm_49 C hr hK21 hw
def wl_X12_storm_21  (post : AH → Int32 → Prop) : Nat → AH → Nat → Int32 → Int32 → Int32 → Prop
  | 0 => fun _ _ _ _ _ => False
  | n + 1 => fun h al0 xl1 xl2 xl3 => wb_X12_storm_21  (wl_X12_storm_21  post n) h al0 xl1 xl2 xl3 post
theorem tl_X12_storm_21 {G : GG} {p : Program} {l : Launch} {e : Env} {R : Room} {s : State} {m : MethodId} {args : Array Value} {below : List Frame} {meth : Method} {c : Code} {n0 s0 : Nat} {post : AH → Int32 → Prop} (C : Cx G p R s m args meth c 4 cX12_storm RX12 n0 s0 3 75) (hr : meth.sig.returnType = (some .int))   : ∀ (n : Nat) (h : AH) (al0 : Nat) (xl1 : Int32) (xl2 : Int32) (xl3 : Int32), wl_X12_storm_21  post n h al0 xl1 xl2 xl3 → AW G p l e R s m args below meth c 4 (QM G (pI post) args s below n0 s0) 21 [(0, .ref (G.1 + al0)), (1, .int xl1), (2, .int xl2), (3, .int xl3)] [] h := by
  intro n
  induction n with
  | zero => intro h al0 xl1 xl2 xl3 hw; exact hw.elim
  | succ n ih => intro h al0 xl1 xl2 xl3 hw; exact tb_X12_storm_21 C hr  ih hw
def wp_X12_storm (h : AH) (a0 : Nat) (x1 : Int32) (post : AH → Int32 → Prop) : Prop := (ob h a0 11) ∧ (∀ hv1 : AH, hv1 = hI h a0 0 0 → (wp_X12_isIn hv1 x1 0 99 (fun hv2 iv3 => (¬ iv3 = 0 → (∃ n, wl_X12_storm_21  post n hv2 a0 x1 0 0)) ∧ (iv3 = 0 → (post hv2 (-1))))))
set_option maxRecDepth 100000 in
theorem c_X12_storm (G : GG) (h : AH) (a0 : Nat) (x1 : Int32) (post : AH → Int32 → Prop) (hw : wp_X12_storm h a0 x1 post) : MC G yX12_storm cX12_storm 4 (some .int) 3 75 h [.ref (G.1 + a0), .int x1] (pI post) := by
  refine MC.of (lv := [(0, .ref (G.1 + a0)), (1, .int x1)]) (by decide) (Nat.le_of_ble_eq_true rfl) rfl fun p l e R s m args below meth c C hr hnm => ?_
  unfold wp_X12_storm at hw
  refine r_aload_n C dX12_storm_0 0 rfl ?_
  refine r_iconst (v := 0) C dX12_storm_1 (by decide) ?_
  refine r_putI C fp_RX12_1_11 hw.1 rfl dX12_storm_2 ?_
  replace hw := hw.2
  refine r_toph fun hv1 ehv1 => ?_
  replace hw := hw hv1 ehv1
  refine r_iload_n C dX12_storm_5 1 rfl ?_
  refine r_iconst (v := 0) C dX12_storm_6 (by decide) ?_
  refine r_bipush (v := 99) C dX12_storm_7 (by decide) ?_
  refine r_callS C (As := [.int x1, .int 0, .int 99]) (rest := []) (c_X12_isIn G hv1 x1 0 99 _ hw) yl_X12_isIn (gm7 (List.mem_of_getElem? (i := 189) rfl) rfl) (gm7 (List.mem_of_getElem? (i := 190) rfl) rfl) (by decide) rfl (Nat.le_of_ble_eq_true rfl) dX12_storm_9 rfl (kI fun hv2 iv3 hw => ?_)
  refine r_if_ne C dX12_storm_12 17 (by decide) (fun hc => ?_) (fun hc => ?_)
  · replace hw := hw.1 hc
    refine r_iconst (v := 0) C dX12_storm_17 (by decide) ?_
    refine r_istore_n C dX12_storm_18 [(2, .int 0), (0, .ref (G.1 + a0)), (1, .int x1)] (by decide) rfl ?_
    refine r_iconst (v := 0) C dX12_storm_19 (by decide) ?_
    refine r_istore_n C dX12_storm_20 [(3, .int 0), (2, .int 0), (0, .ref (G.1 + a0)), (1, .int x1)] (by decide) rfl ?_
    refine r_sub [2, 3, 1, 0] rfl ?_
    obtain ⟨n, hw⟩ := hw
    exact tl_X12_storm_21 C hr  n _ _ _ _ _ hw
  · replace hw := hw.2 hc
    refine r_iconst (v := (-1)) C dX12_storm_15 (by decide) ?_
    exact r_iret C hr dX12_storm_16 hw
theorem dX12_cut_0 : decode cX12_cut 0 = .ok (.aload_n 0, 1) := by decide +kernel
theorem dX12_cut_1 : decode cX12_cut 1 = .ok (.iconst 0, 1) := by decide +kernel
theorem dX12_cut_2 : decode cX12_cut 2 = .ok (.putfield 1, 3) := by decide +kernel
theorem dX12_cut_5 : decode cX12_cut 5 = .ok (.aload_n 0, 1) := by decide +kernel
theorem dX12_cut_6 : decode cX12_cut 6 = .ok (.iload_n 1, 1) := by decide +kernel
theorem dX12_cut_7 : decode cX12_cut 7 = .ok (.invokevirtual 310, 3) := by decide +kernel
theorem dX12_cut_10 : decode cX12_cut 10 = .ok (.ifCond .eq 22, 3) := by decide +kernel
theorem dX12_cut_13 : decode cX12_cut 13 = .ok (.iload_n 2, 1) := by decide +kernel
theorem dX12_cut_14 : decode cX12_cut 14 = .ok (.iconst 0, 1) := by decide +kernel
theorem dX12_cut_15 : decode cX12_cut 15 = .ok (.bipush 99, 2) := by decide +kernel
theorem dX12_cut_17 : decode cX12_cut 17 = .ok (.invokestatic 196, 3) := by decide +kernel
theorem dX12_cut_20 : decode cX12_cut 20 = .ok (.ifCond .eq 12, 3) := by decide +kernel
theorem dX12_cut_23 : decode cX12_cut 23 = .ok (.iload_n 3, 1) := by decide +kernel
theorem dX12_cut_24 : decode cX12_cut 24 = .ok (.iconst 0, 1) := by decide +kernel
theorem dX12_cut_25 : decode cX12_cut 25 = .ok (.iconst 1, 1) := by decide +kernel
theorem dX12_cut_26 : decode cX12_cut 26 = .ok (.invokestatic 196, 3) := by decide +kernel
theorem dX12_cut_29 : decode cX12_cut 29 = .ok (.ifCond .ne 5, 3) := by decide +kernel
theorem dX12_cut_32 : decode cX12_cut 32 = .ok (.iconst (-1), 1) := by decide +kernel
theorem dX12_cut_33 : decode cX12_cut 33 = .ok (.ireturn, 1) := by decide +kernel
theorem dX12_cut_34 : decode cX12_cut 34 = .ok (.iconst (-1), 1) := by decide +kernel
theorem dX12_cut_35 : decode cX12_cut 35 = .ok (.istore 4, 2) := by decide +kernel
theorem dX12_cut_37 : decode cX12_cut 37 = .ok (.ldc_w 414, 3) := by decide +kernel
theorem dX12_cut_40 : decode cX12_cut 40 = .ok (.istore 5, 2) := by decide +kernel
theorem dX12_cut_42 : decode cX12_cut 42 = .ok (.iconst 0, 1) := by decide +kernel
theorem dX12_cut_43 : decode cX12_cut 43 = .ok (.istore 6, 2) := by decide +kernel
theorem dX12_cut_45 : decode cX12_cut 45 = .ok (.iload 6, 2) := by decide +kernel
theorem dX12_cut_47 : decode cX12_cut 47 = .ok (.iconst 1, 1) := by decide +kernel
theorem dX12_cut_48 : decode cX12_cut 48 = .ok (.aload_n 0, 1) := by decide +kernel
theorem dX12_cut_49 : decode cX12_cut 49 = .ok (.getfield 33, 3) := by decide +kernel
theorem dX12_cut_52 : decode cX12_cut 52 = .ok (.iconst 4, 1) := by decide +kernel
theorem dX12_cut_53 : decode cX12_cut 53 = .ok (.iaload, 1) := by decide +kernel
theorem dX12_cut_54 : decode cX12_cut 54 = .ok (.ishl, 1) := by decide +kernel
theorem dX12_cut_55 : decode cX12_cut 55 = .ok (.if_icmp .ge 115, 3) := by decide +kernel
theorem dX12_cut_58 : decode cX12_cut 58 = .ok (.iconst 0, 1) := by decide +kernel
theorem dX12_cut_59 : decode cX12_cut 59 = .ok (.istore 7, 2) := by decide +kernel
theorem dX12_cut_61 : decode cX12_cut 61 = .ok (.iconst 0, 1) := by decide +kernel
theorem dX12_cut_62 : decode cX12_cut 62 = .ok (.istore 8, 2) := by decide +kernel
theorem dX12_cut_64 : decode cX12_cut 64 = .ok (.iload 8, 2) := by decide +kernel
theorem dX12_cut_66 : decode cX12_cut 66 = .ok (.aload_n 0, 1) := by decide +kernel
theorem dX12_cut_67 : decode cX12_cut 67 = .ok (.getfield 33, 3) := by decide +kernel
theorem dX12_cut_70 : decode cX12_cut 70 = .ok (.iconst 4, 1) := by decide +kernel
theorem dX12_cut_71 : decode cX12_cut 71 = .ok (.iaload, 1) := by decide +kernel
theorem dX12_cut_72 : decode cX12_cut 72 = .ok (.if_icmp .ge 43, 3) := by decide +kernel
theorem dX12_cut_75 : decode cX12_cut 75 = .ok (.iload 7, 2) := by decide +kernel
theorem dX12_cut_77 : decode cX12_cut 77 = .ok (.iload 6, 2) := by decide +kernel
theorem dX12_cut_79 : decode cX12_cut 79 = .ok (.iload 8, 2) := by decide +kernel
theorem dX12_cut_81 : decode cX12_cut 81 = .ok (.invokestatic 256, 3) := by decide +kernel
theorem dX12_cut_84 : decode cX12_cut 84 = .ok (.ifCond .eq 21, 3) := by decide +kernel
theorem dX12_cut_87 : decode cX12_cut 87 = .ok (.aload_n 0, 1) := by decide +kernel
theorem dX12_cut_88 : decode cX12_cut 88 = .ok (.getfield 33, 3) := by decide +kernel
theorem dX12_cut_91 : decode cX12_cut 91 = .ok (.sipush 135, 3) := by decide +kernel
theorem dX12_cut_94 : decode cX12_cut 94 = .ok (.iconst 4, 1) := by decide +kernel
theorem dX12_cut_95 : decode cX12_cut 95 = .ok (.iload 8, 2) := by decide +kernel
theorem dX12_cut_97 : decode cX12_cut 97 = .ok (.imul, 1) := by decide +kernel
theorem dX12_cut_98 : decode cX12_cut 98 = .ok (.iadd, 1) := by decide +kernel
theorem dX12_cut_99 : decode cX12_cut 99 = .ok (.iconst 3, 1) := by decide +kernel
theorem dX12_cut_100 : decode cX12_cut 100 = .ok (.iadd, 1) := by decide +kernel
theorem dX12_cut_101 : decode cX12_cut 101 = .ok (.iaload, 1) := by decide +kernel
theorem dX12_cut_102 : decode cX12_cut 102 = .ok (.goto 4, 3) := by decide +kernel
theorem dX12_cut_105 : decode cX12_cut 105 = .ok (.iconst 0, 1) := by decide +kernel
theorem dX12_cut_106 : decode cX12_cut 106 = .ok (.iadd, 1) := by decide +kernel
theorem dX12_cut_107 : decode cX12_cut 107 = .ok (.istore 7, 2) := by decide +kernel
theorem dX12_cut_109 : decode cX12_cut 109 = .ok (.iinc 8 1, 3) := by decide +kernel
theorem dX12_cut_112 : decode cX12_cut 112 = .ok (.goto (-48), 3) := by decide +kernel
theorem dX12_cut_115 : decode cX12_cut 115 = .ok (.iload 7, 2) := by decide +kernel
theorem dX12_cut_117 : decode cX12_cut 117 = .ok (.iload 5, 2) := by decide +kernel
theorem dX12_cut_119 : decode cX12_cut 119 = .ok (.if_icmp .gt 45, 3) := by decide +kernel
theorem dX12_cut_122 : decode cX12_cut 122 = .ok (.iload 7, 2) := by decide +kernel
theorem dX12_cut_124 : decode cX12_cut 124 = .ok (.iload 5, 2) := by decide +kernel
theorem dX12_cut_126 : decode cX12_cut 126 = .ok (.if_icmp .ne 16, 3) := by decide +kernel
theorem dX12_cut_129 : decode cX12_cut 129 = .ok (.iload 6, 2) := by decide +kernel
theorem dX12_cut_131 : decode cX12_cut 131 = .ok (.invokestatic 444, 3) := by decide +kernel
theorem dX12_cut_134 : decode cX12_cut 134 = .ok (.iload 4, 2) := by decide +kernel
theorem dX12_cut_136 : decode cX12_cut 136 = .ok (.invokestatic 444, 3) := by decide +kernel
theorem dX12_cut_139 : decode cX12_cut 139 = .ok (.if_icmp .ge 25, 3) := by decide +kernel
theorem dX12_cut_142 : decode cX12_cut 142 = .ok (.aload_n 0, 1) := by decide +kernel
theorem dX12_cut_143 : decode cX12_cut 143 = .ok (.iload_n 1, 1) := by decide +kernel
theorem dX12_cut_144 : decode cX12_cut 144 = .ok (.iload_n 2, 1) := by decide +kernel
theorem dX12_cut_145 : decode cX12_cut 145 = .ok (.iload 6, 2) := by decide +kernel
theorem dX12_cut_147 : decode cX12_cut 147 = .ok (.invokevirtual 441, 3) := by decide +kernel
theorem dX12_cut_150 : decode cX12_cut 150 = .ok (.ifCond .eq 6, 3) := by decide +kernel
theorem dX12_cut_153 : decode cX12_cut 153 = .ok (.goto 11, 3) := by decide +kernel
theorem dX12_cut_156 : decode cX12_cut 156 = .ok (.iload 6, 2) := by decide +kernel
theorem dX12_cut_158 : decode cX12_cut 158 = .ok (.istore 4, 2) := by decide +kernel
theorem dX12_cut_160 : decode cX12_cut 160 = .ok (.iload 7, 2) := by decide +kernel
theorem dX12_cut_162 : decode cX12_cut 162 = .ok (.istore 5, 2) := by decide +kernel
theorem dX12_cut_164 : decode cX12_cut 164 = .ok (.iinc 6 1, 3) := by decide +kernel
theorem dX12_cut_167 : decode cX12_cut 167 = .ok (.goto (-122), 3) := by decide +kernel
theorem dX12_cut_170 : decode cX12_cut 170 = .ok (.iload 4, 2) := by decide +kernel
theorem dX12_cut_172 : decode cX12_cut 172 = .ok (.ifCond .ge 7, 3) := by decide +kernel
theorem dX12_cut_175 : decode cX12_cut 175 = .ok (.iconst (-1), 1) := by decide +kernel
theorem dX12_cut_176 : decode cX12_cut 176 = .ok (.goto 14, 3) := by decide +kernel
theorem dX12_cut_179 : decode cX12_cut 179 = .ok (.iload_n 3, 1) := by decide +kernel
theorem dX12_cut_180 : decode cX12_cut 180 = .ok (.ifCond .ne 8, 3) := by decide +kernel
theorem dX12_cut_183 : decode cX12_cut 183 = .ok (.iload 5, 2) := by decide +kernel
theorem dX12_cut_185 : decode cX12_cut 185 = .ok (.goto 5, 3) := by decide +kernel
theorem dX12_cut_188 : decode cX12_cut 188 = .ok (.iload 4, 2) := by decide +kernel
theorem dX12_cut_190 : decode cX12_cut 190 = .ok (.ireturn, 1) := by decide +kernel
def wb_X12_cut_164 (K45 : AH → Nat → Int32 → Int32 → Int32 → Int32 → Int32 → Int32 → Prop) (h : AH) (al0 : Nat) (xl1 : Int32) (xl2 : Int32) (xl3 : Int32) (xl4 : Int32) (xl5 : Int32) (xl6 : Int32)  (post : AH → Int32 → Prop) : Prop := ∀ iv1 : Int32, iv1 = xl6 + 1 → (K45 h al0 xl1 xl2 xl3 xl4 xl5 iv1)
set_option maxRecDepth 100000 in
theorem tb_X12_cut_164 {G : GG} {p : Program} {l : Launch} {e : Env} {R : Room} {s : State} {m : MethodId} {args : Array Value} {below : List Frame} {meth : Method} {c : Code} {n0 s0 : Nat} {post : AH → Int32 → Prop} (C : Cx G p R s m args meth c 9 cX12_cut RX12 n0 s0 3 75) (hr : meth.sig.returnType = (some .int)) {K45 : AH → Nat → Int32 → Int32 → Int32 → Int32 → Int32 → Int32 → Prop} (hK45 : ∀ (h : AH) (al0 : Nat) (xl1 : Int32) (xl2 : Int32) (xl3 : Int32) (xl4 : Int32) (xl5 : Int32) (xl6 : Int32), K45 h al0 xl1 xl2 xl3 xl4 xl5 xl6 → AW G p l e R s m args below meth c 9 (QM G (pI post) args s below n0 s0) 45 [(0, .ref (G.1 + al0)), (1, .int xl1), (2, .int xl2), (3, .int xl3), (4, .int xl4), (5, .int xl5), (6, .int xl6)] [] h) {h : AH} {al0 : Nat} {xl1 : Int32} {xl2 : Int32} {xl3 : Int32} {xl4 : Int32} {xl5 : Int32} {xl6 : Int32}  (hw : wb_X12_cut_164 K45 h al0 xl1 xl2 xl3 xl4 xl5 xl6 post) : AW G p l e R s m args below meth c 9 (QM G (pI post) args s below n0 s0) 164 [(0, .ref (G.1 + al0)), (1, .int xl1), (2, .int xl2), (3, .int xl3), (4, .int xl4), (5, .int xl5), (6, .int xl6)] [] h := by
  unfold wb_X12_cut_164 at hw
  obtain ⟨iv1, eiv1⟩ : ∃ q : Int32, q = xl6 + 1 := ⟨_, rfl⟩
  replace hw := hw iv1 eiv1
  refine r_iinc C dX12_cut_164 6 rfl (by rw [eiv1]; rfl) [(6, .int iv1), (0, .ref (G.1 + al0)), (1, .int xl1), (2, .int xl2), (3, .int xl3), (4, .int xl4), (5, .int xl5)] (by decide) rfl ?_
  refine r_goto C dX12_cut_167 45 (by decide) ?_
  refine r_sub [1, 2, 3, 4, 5, 6, 0] rfl ?_
  exact hK45 _ _ _ _ _ _ _ _ hw
def wb_X12_cut_142 (K45 : AH → Nat → Int32 → Int32 → Int32 → Int32 → Int32 → Int32 → Prop) (h : AH) (al0 : Nat) (xl1 : Int32) (xl2 : Int32) (xl3 : Int32) (xl4 : Int32) (xl5 : Int32) (xl6 : Int32) (xl7 : Int32)  (post : AH → Int32 → Prop) : Prop := (ob h al0 11) ∧ wp_X12_isDriven h al0 xl1 xl2 xl6 (fun hv1 iv2 => (iv2 = 0 → (wb_X12_cut_164 K45 hv1 al0 xl1 xl2 xl3 xl6 xl7 xl6 post)) ∧ (¬ iv2 = 0 → (wb_X12_cut_164 K45 hv1 al0 xl1 xl2 xl3 xl4 xl5 xl6 post)))
set_option maxRecDepth 100000 in
theorem tb_X12_cut_142 {G : GG} {p : Program} {l : Launch} {e : Env} {R : Room} {s : State} {m : MethodId} {args : Array Value} {below : List Frame} {meth : Method} {c : Code} {n0 s0 : Nat} {post : AH → Int32 → Prop} (C : Cx G p R s m args meth c 9 cX12_cut RX12 n0 s0 3 75) (hr : meth.sig.returnType = (some .int)) {K45 : AH → Nat → Int32 → Int32 → Int32 → Int32 → Int32 → Int32 → Prop} (hK45 : ∀ (h : AH) (al0 : Nat) (xl1 : Int32) (xl2 : Int32) (xl3 : Int32) (xl4 : Int32) (xl5 : Int32) (xl6 : Int32), K45 h al0 xl1 xl2 xl3 xl4 xl5 xl6 → AW G p l e R s m args below meth c 9 (QM G (pI post) args s below n0 s0) 45 [(0, .ref (G.1 + al0)), (1, .int xl1), (2, .int xl2), (3, .int xl3), (4, .int xl4), (5, .int xl5), (6, .int xl6)] [] h) {h : AH} {al0 : Nat} {xl1 : Int32} {xl2 : Int32} {xl3 : Int32} {xl4 : Int32} {xl5 : Int32} {xl6 : Int32} {xl7 : Int32}  (hw : wb_X12_cut_142 K45 h al0 xl1 xl2 xl3 xl4 xl5 xl6 xl7 post) : AW G p l e R s m args below meth c 9 (QM G (pI post) args s below n0 s0) 142 [(0, .ref (G.1 + al0)), (1, .int xl1), (2, .int xl2), (3, .int xl3), (4, .int xl4), (5, .int xl5), (6, .int xl6), (7, .int xl7)] [] h := by
  unfold wb_X12_cut_142 at hw
  refine r_aload_n C dX12_cut_142 0 rfl ?_
  refine r_iload_n C dX12_cut_143 1 rfl ?_
  refine r_iload_n C dX12_cut_144 2 rfl ?_
  refine r_iload C dX12_cut_145 6 rfl ?_
  have hob := hw.1
  replace hw := hw.2
  refine r_callV C (As := [.int xl1, .int xl2, .int xl6]) (rest := []) (c_X12_isDriven G h al0 xl1 xl2 xl6 _ hw) yl_X12_isDriven (gm9 (List.mem_of_getElem? (i := 45) rfl) rfl) (gm9 (List.mem_of_getElem? (i := 47) rfl) rfl) (ci := 11) rfl (by decide) (gsel (List.mem_of_getElem? (i := 101) rfl)) hob (by decide) rfl (Nat.le_of_ble_eq_true rfl) dX12_cut_147 rfl (kI fun hv1 iv2 hw => ?_)
  refine r_if_eq C dX12_cut_150 156 (by decide) (fun hc => ?_) (fun hc => ?_)
  · replace hw := hw.1 hc
    refine r_iload C dX12_cut_156 6 rfl ?_
    refine r_istore C dX12_cut_158 [(4, .int xl6), (0, .ref (G.1 + al0)), (1, .int xl1), (2, .int xl2), (3, .int xl3), (5, .int xl5), (6, .int xl6), (7, .int xl7)] (by decide) rfl ?_
    refine r_iload C dX12_cut_160 7 rfl ?_
    refine r_istore C dX12_cut_162 [(5, .int xl7), (4, .int xl6), (0, .ref (G.1 + al0)), (1, .int xl1), (2, .int xl2), (3, .int xl3), (6, .int xl6), (7, .int xl7)] (by decide) rfl ?_
    refine r_sub [2, 3, 4, 5, 1, 0, 6] rfl ?_
    exact tb_X12_cut_164 C hr hK45 hw
  · replace hw := hw.2 hc
    refine r_goto C dX12_cut_153 164 (by decide) ?_
    refine r_sub [0, 1, 2, 3, 4, 5, 6] rfl ?_
    exact tb_X12_cut_164 C hr hK45 hw
def wb_X12_cut_106 (K45 : AH → Nat → Int32 → Int32 → Int32 → Int32 → Int32 → Int32 → Prop) (K64 : AH → Nat → Int32 → Int32 → Int32 → Int32 → Int32 → Int32 → Int32 → Int32 → Prop) (h : AH) (al0 : Nat) (xl1 : Int32) (xl2 : Int32) (xl3 : Int32) (xl4 : Int32) (xl5 : Int32) (xl6 : Int32) (xl8 : Int32) (xs0 : Int32) (xs1 : Int32) (post : AH → Int32 → Prop) : Prop := ∀ iv1 : Int32, iv1 = xs1 + xs0 → (∀ iv2 : Int32, iv2 = xl8 + 1 → (K64 h al0 xl1 xl2 xl3 xl4 xl5 xl6 iv1 iv2))
set_option maxRecDepth 100000 in
theorem tb_X12_cut_106 {G : GG} {p : Program} {l : Launch} {e : Env} {R : Room} {s : State} {m : MethodId} {args : Array Value} {below : List Frame} {meth : Method} {c : Code} {n0 s0 : Nat} {post : AH → Int32 → Prop} (C : Cx G p R s m args meth c 9 cX12_cut RX12 n0 s0 3 75) (hr : meth.sig.returnType = (some .int)) {K45 : AH → Nat → Int32 → Int32 → Int32 → Int32 → Int32 → Int32 → Prop} {K64 : AH → Nat → Int32 → Int32 → Int32 → Int32 → Int32 → Int32 → Int32 → Int32 → Prop} (hK45 : ∀ (h : AH) (al0 : Nat) (xl1 : Int32) (xl2 : Int32) (xl3 : Int32) (xl4 : Int32) (xl5 : Int32) (xl6 : Int32), K45 h al0 xl1 xl2 xl3 xl4 xl5 xl6 → AW G p l e R s m args below meth c 9 (QM G (pI post) args s below n0 s0) 45 [(0, .ref (G.1 + al0)), (1, .int xl1), (2, .int xl2), (3, .int xl3), (4, .int xl4), (5, .int xl5), (6, .int xl6)] [] h) (hK64 : ∀ (h : AH) (al0 : Nat) (xl1 : Int32) (xl2 : Int32) (xl3 : Int32) (xl4 : Int32) (xl5 : Int32) (xl6 : Int32) (xl7 : Int32) (xl8 : Int32), K64 h al0 xl1 xl2 xl3 xl4 xl5 xl6 xl7 xl8 → AW G p l e R s m args below meth c 9 (QM G (pI post) args s below n0 s0) 64 [(0, .ref (G.1 + al0)), (1, .int xl1), (2, .int xl2), (3, .int xl3), (4, .int xl4), (5, .int xl5), (6, .int xl6), (7, .int xl7), (8, .int xl8)] [] h) {h : AH} {al0 : Nat} {xl1 : Int32} {xl2 : Int32} {xl3 : Int32} {xl4 : Int32} {xl5 : Int32} {xl6 : Int32} {xl8 : Int32} {xs0 : Int32} {xs1 : Int32} (hw : wb_X12_cut_106 K45 K64 h al0 xl1 xl2 xl3 xl4 xl5 xl6 xl8 xs0 xs1 post) : AW G p l e R s m args below meth c 9 (QM G (pI post) args s below n0 s0) 106 [(0, .ref (G.1 + al0)), (1, .int xl1), (2, .int xl2), (3, .int xl3), (4, .int xl4), (5, .int xl5), (6, .int xl6), (8, .int xl8)] [.int xs0, .int xs1] h := by
  unfold wb_X12_cut_106 at hw
  refine r_iadd C dX12_cut_106 ?_
  refine r_topi fun iv1 eiv1 => ?_
  replace hw := hw iv1 eiv1
  refine r_istore C dX12_cut_107 [(7, .int iv1), (0, .ref (G.1 + al0)), (1, .int xl1), (2, .int xl2), (3, .int xl3), (4, .int xl4), (5, .int xl5), (6, .int xl6), (8, .int xl8)] (by decide) rfl ?_
  obtain ⟨iv2, eiv2⟩ : ∃ q : Int32, q = xl8 + 1 := ⟨_, rfl⟩
  replace hw := hw iv2 eiv2
  refine r_iinc C dX12_cut_109 8 rfl (by rw [eiv2]; rfl) [(8, .int iv2), (7, .int iv1), (0, .ref (G.1 + al0)), (1, .int xl1), (2, .int xl2), (3, .int xl3), (4, .int xl4), (5, .int xl5), (6, .int xl6)] (by decide) rfl ?_
  refine r_goto C dX12_cut_112 64 (by decide) ?_
  refine r_sub [2, 3, 4, 5, 6, 7, 8, 1, 0] rfl ?_
  exact hK64 _ _ _ _ _ _ _ _ _ _ hw
def wb_X12_cut_64 (K45 : AH → Nat → Int32 → Int32 → Int32 → Int32 → Int32 → Int32 → Prop) (K64 : AH → Nat → Int32 → Int32 → Int32 → Int32 → Int32 → Int32 → Int32 → Int32 → Prop) (h : AH) (al0 : Nat) (xl1 : Int32) (xl2 : Int32) (xl3 : Int32) (xl4 : Int32) (xl5 : Int32) (xl6 : Int32) (xl7 : Int32) (xl8 : Int32)  (post : AH → Int32 → Prop) : Prop := (ob h al0 11) ∧ (∃ rv1, aP h al0 6 = some rv1 ∧ ((ob h rv1 13) ∧ ((vp_in 4 (aL h rv1)) ∧ (((aI h rv1 (4 : Int32).toNatClampNeg) ≤ xl8 → ((xl5 < xl7 → (wb_X12_cut_164 K45 h al0 xl1 xl2 xl3 xl4 xl5 xl6 post)) ∧ (¬ xl5 < xl7 → ((¬ xl7 = xl5 → (wb_X12_cut_142 K45 h al0 xl1 xl2 xl3 xl4 xl5 xl6 xl7 post)) ∧ (xl7 = xl5 → (wp_X12_count1 h xl6 (fun hv2 iv3 => wp_X12_count1 hv2 xl4 (fun hv4 iv5 => (iv5 ≤ iv3 → (wb_X12_cut_164 K45 hv4 al0 xl1 xl2 xl3 xl4 xl5 xl6 post)) ∧ (¬ iv5 ≤ iv3 → (wb_X12_cut_142 K45 hv4 al0 xl1 xl2 xl3 xl4 xl5 xl6 xl7 post)))))))))) ∧ (¬ (aI h rv1 (4 : Int32).toNatClampNeg) ≤ xl8 → (wp_X12_has h xl6 xl8 (fun hv6 iv7 => (iv7 = 0 → (wb_X12_cut_106 K45 K64 hv6 al0 xl1 xl2 xl3 xl4 xl5 xl6 xl8 0 xl7 post)) ∧ (¬ iv7 = 0 → ((ob hv6 al0 11) ∧ (∃ rv8, aP hv6 al0 6 = some rv8 ∧ ((ob hv6 rv8 13) ∧ ((vp_in (((135 : Int32) + ((4 : Int32) * xl8)) + (3 : Int32)) (aL hv6 rv8)) ∧ (wb_X12_cut_106 K45 K64 hv6 al0 xl1 xl2 xl3 xl4 xl5 xl6 xl8 (aI hv6 rv8 (((135 : Int32) + ((4 : Int32) * xl8)) + (3 : Int32)).toNatClampNeg) xl7 post)))))))))))))
set_option maxRecDepth 100000 in
theorem tb_X12_cut_64 {G : GG} {p : Program} {l : Launch} {e : Env} {R : Room} {s : State} {m : MethodId} {args : Array Value} {below : List Frame} {meth : Method} {c : Code} {n0 s0 : Nat} {post : AH → Int32 → Prop} (C : Cx G p R s m args meth c 9 cX12_cut RX12 n0 s0 3 75) (hr : meth.sig.returnType = (some .int)) {K45 : AH → Nat → Int32 → Int32 → Int32 → Int32 → Int32 → Int32 → Prop} {K64 : AH → Nat → Int32 → Int32 → Int32 → Int32 → Int32 → Int32 → Int32 → Int32 → Prop} (hK45 : ∀ (h : AH) (al0 : Nat) (xl1 : Int32) (xl2 : Int32) (xl3 : Int32) (xl4 : Int32) (xl5 : Int32) (xl6 : Int32), K45 h al0 xl1 xl2 xl3 xl4 xl5 xl6 → AW G p l e R s m args below meth c 9 (QM G (pI post) args s below n0 s0) 45 [(0, .ref (G.1 + al0)), (1, .int xl1), (2, .int xl2), (3, .int xl3), (4, .int xl4), (5, .int xl5), (6, .int xl6)] [] h) (hK64 : ∀ (h : AH) (al0 : Nat) (xl1 : Int32) (xl2 : Int32) (xl3 : Int32) (xl4 : Int32) (xl5 : Int32) (xl6 : Int32) (xl7 : Int32) (xl8 : Int32), K64 h al0 xl1 xl2 xl3 xl4 xl5 xl6 xl7 xl8 → AW G p l e R s m args below meth c 9 (QM G (pI post) args s below n0 s0) 64 [(0, .ref (G.1 + al0)), (1, .int xl1), (2, .int xl2), (3, .int xl3), (4, .int xl4), (5, .int xl5), (6, .int xl6), (7, .int xl7), (8, .int xl8)] [] h) {h : AH} {al0 : Nat} {xl1 : Int32} {xl2 : Int32} {xl3 : Int32} {xl4 : Int32} {xl5 : Int32} {xl6 : Int32} {xl7 : Int32} {xl8 : Int32}  (hw : wb_X12_cut_64 K45 K64 h al0 xl1 xl2 xl3 xl4 xl5 xl6 xl7 xl8 post) : AW G p l e R s m args below meth c 9 (QM G (pI post) args s below n0 s0) 64 [(0, .ref (G.1 + al0)), (1, .int xl1), (2, .int xl2), (3, .int xl3), (4, .int xl4), (5, .int xl5), (6, .int xl6), (7, .int xl7), (8, .int xl8)] [] h := by
  unfold wb_X12_cut_64 at hw
  refine r_iload C dX12_cut_64 8 rfl ?_
  refine r_aload_n C dX12_cut_66 0 rfl ?_
  have hob := hw.1
  obtain ⟨rv1, hp, hw⟩ := hw.2
  refine r_getP C fl_RX12_33_11 hob hp (fun _ _ _ => rfl) dX12_cut_67 ?_
  refine r_iconst (v := 4) C dX12_cut_70 (by decide) ?_
  refine r_iaload C hw.1 hw.2.1 dX12_cut_71 ?_
  replace hw := hw.2.2
  refine r_icmp_ge C dX12_cut_72 115 (by decide) (fun hc => ?_) (fun hc => ?_)
  · replace hw := hw.1 hc
    refine r_iload C dX12_cut_115 7 rfl ?_
    refine r_iload C dX12_cut_117 5 rfl ?_
    refine r_icmp_gt C dX12_cut_119 164 (by decide) (fun hc => ?_) (fun hc => ?_)
    · replace hw := hw.1 hc
      refine r_sub [0, 1, 2, 3, 4, 5, 6] rfl ?_
      exact tb_X12_cut_164 C hr hK45 hw
    · replace hw := hw.2 hc
      refine r_iload C dX12_cut_122 7 rfl ?_
      refine r_iload C dX12_cut_124 5 rfl ?_
      refine r_icmp_ne C dX12_cut_126 142 (by decide) (fun hc => ?_) (fun hc => ?_)
      · replace hw := hw.1 hc
        refine r_sub [0, 1, 2, 3, 4, 5, 6, 7] rfl ?_
        exact tb_X12_cut_142 C hr hK45 hw
      · replace hw := hw.2 hc
        refine r_iload C dX12_cut_129 6 rfl ?_
        refine r_callS C (As := [.int xl6]) (rest := []) (c_X12_count1 G h xl6 _ hw) yl_X12_count1 (gm9 (List.mem_of_getElem? (i := 57) rfl) rfl) (gm9 (List.mem_of_getElem? (i := 58) rfl) rfl) (by decide) rfl (Nat.le_of_ble_eq_true rfl) dX12_cut_131 rfl (kI fun hv2 iv3 hw => ?_)
        refine r_iload C dX12_cut_134 4 rfl ?_
        refine r_callS C (As := [.int xl4]) (rest := [.int iv3]) (c_X12_count1 G hv2 xl4 _ hw) yl_X12_count1 (gm9 (List.mem_of_getElem? (i := 57) rfl) rfl) (gm9 (List.mem_of_getElem? (i := 58) rfl) rfl) (by decide) rfl (Nat.le_of_ble_eq_true rfl) dX12_cut_136 rfl (kI fun hv4 iv5 hw => ?_)
        refine r_icmp_ge C dX12_cut_139 164 (by decide) (fun hc => ?_) (fun hc => ?_)
        · replace hw := hw.1 hc
          refine r_sub [0, 1, 2, 3, 4, 5, 6] rfl ?_
          exact tb_X12_cut_164 C hr hK45 hw
        · replace hw := hw.2 hc
          refine r_sub [0, 1, 2, 3, 4, 5, 6, 7] rfl ?_
          exact tb_X12_cut_142 C hr hK45 hw
  · replace hw := hw.2 hc
    refine r_iload C dX12_cut_75 7 rfl ?_
    refine r_iload C dX12_cut_77 6 rfl ?_
    refine r_iload C dX12_cut_79 8 rfl ?_
    refine r_callS C (As := [.int xl6, .int xl8]) (rest := [.int xl7]) (c_X12_has G h xl6 xl8 _ hw) yl_X12_has (gm7 (List.mem_of_getElem? (i := 192) rfl) rfl) (gm7 (List.mem_of_getElem? (i := 193) rfl) rfl) (by decide) rfl (Nat.le_of_ble_eq_true rfl) dX12_cut_81 rfl (kI fun hv6 iv7 hw => ?_)
    refine r_if_eq C dX12_cut_84 105 (by decide) (fun hc => ?_) (fun hc => ?_)
    · replace hw := hw.1 hc
      refine r_iconst (v := 0) C dX12_cut_105 (by decide) ?_
      refine r_sub [0, 1, 2, 3, 4, 5, 6, 8] rfl ?_
      exact tb_X12_cut_106 C hr hK45 hK64 hw
    · replace hw := hw.2 hc
      refine r_aload_n C dX12_cut_87 0 rfl ?_
      have hob := hw.1
      obtain ⟨rv8, hp, hw⟩ := hw.2
      refine r_getP C fl_RX12_33_11 hob hp (fun _ _ _ => rfl) dX12_cut_88 ?_
      refine r_sipush (v := 135) C dX12_cut_91 (by decide) ?_
      refine r_iconst (v := 4) C dX12_cut_94 (by decide) ?_
      refine r_iload C dX12_cut_95 8 rfl ?_
      refine r_imul C dX12_cut_97 ?_
      refine r_iadd C dX12_cut_98 ?_
      refine r_iconst (v := 3) C dX12_cut_99 (by decide) ?_
      refine r_iadd C dX12_cut_100 ?_
      refine r_iaload C hw.1 hw.2.1 dX12_cut_101 ?_
      replace hw := hw.2.2
      refine r_goto C dX12_cut_102 106 (by decide) ?_
      refine r_sub [0, 1, 2, 3, 4, 5, 6, 8] rfl ?_
      exact tb_X12_cut_106 C hr hK45 hK64 hw
def wl_X12_cut_64 (K45 : AH → Nat → Int32 → Int32 → Int32 → Int32 → Int32 → Int32 → Prop) (post : AH → Int32 → Prop) : Nat → AH → Nat → Int32 → Int32 → Int32 → Int32 → Int32 → Int32 → Int32 → Int32 → Prop
  | 0 => fun _ _ _ _ _ _ _ _ _ _ => False
  | n + 1 => fun h al0 xl1 xl2 xl3 xl4 xl5 xl6 xl7 xl8 => wb_X12_cut_64 K45 (wl_X12_cut_64 K45 post n) h al0 xl1 xl2 xl3 xl4 xl5 xl6 xl7 xl8 post
theorem tl_X12_cut_64 {G : GG} {p : Program} {l : Launch} {e : Env} {R : Room} {s : State} {m : MethodId} {args : Array Value} {below : List Frame} {meth : Method} {c : Code} {n0 s0 : Nat} {post : AH → Int32 → Prop} (C : Cx G p R s m args meth c 9 cX12_cut RX12 n0 s0 3 75) (hr : meth.sig.returnType = (some .int)) {K45 : AH → Nat → Int32 → Int32 → Int32 → Int32 → Int32 → Int32 → Prop} (hK45 : ∀ (h : AH) (al0 : Nat) (xl1 : Int32) (xl2 : Int32) (xl3 : Int32) (xl4 : Int32) (xl5 : Int32) (xl6 : Int32), K45 h al0 xl1 xl2 xl3 xl4 xl5 xl6 → AW G p l e R s m args below meth c 9 (QM G (pI post) args s below n0 s0) 45 [(0, .ref (G.1 + al0)), (1, .int xl1), (2, .int xl2), (3, .int xl3), (4, .int xl4), (5, .int xl5), (6, .int xl6)] [] h) : ∀ (n : Nat) (h : AH) (al0 : Nat) (xl1 : Int32) (xl2 : Int32) (xl3 : Int32) (xl4 : Int32) (xl5 : Int32) (xl6 : Int32) (xl7 : Int32) (xl8 : Int32), wl_X12_cut_64 K45 post n h al0 xl1 xl2 xl3 xl4 xl5 xl6 xl7 xl8 → AW G p l e R s m args below meth c 9 (QM G (pI post) args s below n0 s0) 64 [(0, .ref (G.1 + al0)), (1, .int xl1), (2, .int xl2), (3, .int xl3), (4, .int xl4), (5, .int xl5), (6, .int xl6), (7, .int xl7), (8, .int xl8)] [] h := by
  intro n
  induction n with
  | zero => intro h al0 xl1 xl2 xl3 xl4 xl5 xl6 xl7 xl8 hw; exact hw.elim
  | succ n ih => intro h al0 xl1 xl2 xl3 xl4 xl5 xl6 xl7 xl8 hw; exact tb_X12_cut_64 C hr hK45 ih hw
def wb_X12_cut_45 (K45 : AH → Nat → Int32 → Int32 → Int32 → Int32 → Int32 → Int32 → Prop) (h : AH) (al0 : Nat) (xl1 : Int32) (xl2 : Int32) (xl3 : Int32) (xl4 : Int32) (xl5 : Int32) (xl6 : Int32)  (post : AH → Int32 → Prop) : Prop := (ob h al0 11) ∧ (∃ rv1, aP h al0 6 = some rv1 ∧ ((ob h rv1 13) ∧ ((vp_in 4 (aL h rv1)) ∧ ((((1 : Int32) <<< ((aI h rv1 (4 : Int32).toNatClampNeg) &&& 31)) ≤ xl6 → ((0 ≤ xl4 → ((¬ xl3 = 0 → (post h xl4)) ∧ (xl3 = 0 → (post h xl5)))) ∧ (¬ 0 ≤ xl4 → (post h (-1))))) ∧ (¬ ((1 : Int32) <<< ((aI h rv1 (4 : Int32).toNatClampNeg) &&& 31)) ≤ xl6 → (∃ n, wl_X12_cut_64 K45 post n h al0 xl1 xl2 xl3 xl4 xl5 xl6 0 0))))))
set_option maxRecDepth 100000 in
theorem tb_X12_cut_45 {G : GG} {p : Program} {l : Launch} {e : Env} {R : Room} {s : State} {m : MethodId} {args : Array Value} {below : List Frame} {meth : Method} {c : Code} {n0 s0 : Nat} {post : AH → Int32 → Prop} (C : Cx G p R s m args meth c 9 cX12_cut RX12 n0 s0 3 75) (hr : meth.sig.returnType = (some .int)) {K45 : AH → Nat → Int32 → Int32 → Int32 → Int32 → Int32 → Int32 → Prop} (hK45 : ∀ (h : AH) (al0 : Nat) (xl1 : Int32) (xl2 : Int32) (xl3 : Int32) (xl4 : Int32) (xl5 : Int32) (xl6 : Int32), K45 h al0 xl1 xl2 xl3 xl4 xl5 xl6 → AW G p l e R s m args below meth c 9 (QM G (pI post) args s below n0 s0) 45 [(0, .ref (G.1 + al0)), (1, .int xl1), (2, .int xl2), (3, .int xl3), (4, .int xl4), (5, .int xl5), (6, .int xl6)] [] h) {h : AH} {al0 : Nat} {xl1 : Int32} {xl2 : Int32} {xl3 : Int32} {xl4 : Int32} {xl5 : Int32} {xl6 : Int32}  (hw : wb_X12_cut_45 K45 h al0 xl1 xl2 xl3 xl4 xl5 xl6 post) : AW G p l e R s m args below meth c 9 (QM G (pI post) args s below n0 s0) 45 [(0, .ref (G.1 + al0)), (1, .int xl1), (2, .int xl2), (3, .int xl3), (4, .int xl4), (5, .int xl5), (6, .int xl6)] [] h := by
  unfold wb_X12_cut_45 at hw
  refine r_iload C dX12_cut_45 6 rfl ?_
  refine r_iconst (v := 1) C dX12_cut_47 (by decide) ?_
  refine r_aload_n C dX12_cut_48 0 rfl ?_
  have hob := hw.1
  obtain ⟨rv1, hp, hw⟩ := hw.2
  refine r_getP C fl_RX12_33_11 hob hp (fun _ _ _ => rfl) dX12_cut_49 ?_
  refine r_iconst (v := 4) C dX12_cut_52 (by decide) ?_
  refine r_iaload C hw.1 hw.2.1 dX12_cut_53 ?_
  replace hw := hw.2.2
  refine r_ishl C dX12_cut_54 ?_
  refine r_icmp_ge C dX12_cut_55 170 (by decide) (fun hc => ?_) (fun hc => ?_)
  · replace hw := hw.1 hc
    refine r_iload C dX12_cut_170 4 rfl ?_
    refine r_if_ge C dX12_cut_172 179 (by decide) (fun hc => ?_) (fun hc => ?_)
    · replace hw := hw.1 hc
      refine r_iload_n C dX12_cut_179 3 rfl ?_
      refine r_if_ne C dX12_cut_180 188 (by decide) (fun hc => ?_) (fun hc => ?_)
      · replace hw := hw.1 hc
        refine r_iload C dX12_cut_188 4 rfl ?_
        exact r_iret C hr dX12_cut_190 hw
      · replace hw := hw.2 hc
        refine r_iload C dX12_cut_183 5 rfl ?_
        refine r_goto C dX12_cut_185 190 (by decide) ?_
        exact r_iret C hr dX12_cut_190 hw
    · replace hw := hw.2 hc
      refine r_iconst (v := (-1)) C dX12_cut_175 (by decide) ?_
      refine r_goto C dX12_cut_176 190 (by decide) ?_
      exact r_iret C hr dX12_cut_190 hw
  · replace hw := hw.2 hc
    refine r_iconst (v := 0) C dX12_cut_58 (by decide) ?_
    refine r_istore C dX12_cut_59 [(7, .int 0), (0, .ref (G.1 + al0)), (1, .int xl1), (2, .int xl2), (3, .int xl3), (4, .int xl4), (5, .int xl5), (6, .int xl6)] (by decide) rfl ?_
    refine r_iconst (v := 0) C dX12_cut_61 (by decide) ?_
    refine r_istore C dX12_cut_62 [(8, .int 0), (7, .int 0), (0, .ref (G.1 + al0)), (1, .int xl1), (2, .int xl2), (3, .int xl3), (4, .int xl4), (5, .int xl5), (6, .int xl6)] (by decide) rfl ?_
    refine r_sub [2, 3, 4, 5, 6, 7, 8, 1, 0] rfl ?_
    obtain ⟨n, hw⟩ := hw
    exact tl_X12_cut_64 C hr hK45 n _ _ _ _ _ _ _ _ _ _ hw
def wl_X12_cut_45  (post : AH → Int32 → Prop) : Nat → AH → Nat → Int32 → Int32 → Int32 → Int32 → Int32 → Int32 → Prop
  | 0 => fun _ _ _ _ _ _ _ _ => False
  | n + 1 => fun h al0 xl1 xl2 xl3 xl4 xl5 xl6 => wb_X12_cut_45  (wl_X12_cut_45  post n) h al0 xl1 xl2 xl3 xl4 xl5 xl6 post
theorem tl_X12_cut_45 {G : GG} {p : Program} {l : Launch} {e : Env} {R : Room} {s : State} {m : MethodId} {args : Array Value} {below : List Frame} {meth : Method} {c : Code} {n0 s0 : Nat} {post : AH → Int32 → Prop} (C : Cx G p R s m args meth c 9 cX12_cut RX12 n0 s0 3 75) (hr : meth.sig.returnType = (some .int))   : ∀ (n : Nat) (h : AH) (al0 : Nat) (xl1 : Int32) (xl2 : Int32) (xl3 : Int32) (xl4 : Int32) (xl5 : Int32) (xl6 : Int32), wl_X12_cut_45  post n h al0 xl1 xl2 xl3 xl4 xl5 xl6 → AW G p l e R s m args below meth c 9 (QM G (pI post) args s below n0 s0) 45 [(0, .ref (G.1 + al0)), (1, .int xl1), (2, .int xl2), (3, .int xl3), (4, .int xl4), (5, .int xl5), (6, .int xl6)] [] h := by
  intro n
  induction n with
  | zero => intro h al0 xl1 xl2 xl3 xl4 xl5 xl6 hw; exact hw.elim
  | succ n ih => intro h al0 xl1 xl2 xl3 xl4 xl5 xl6 hw; exact tb_X12_cut_45 C hr  ih hw
def wp_X12_cut (h : AH) (a0 : Nat) (x1 : Int32) (x2 : Int32) (x3 : Int32) (post : AH → Int32 → Prop) : Prop := (ob h a0 11) ∧ (∀ hv1 : AH, hv1 = hI h a0 0 0 → ((ob hv1 a0 11) ∧ wp_X12_isRaft hv1 a0 x1 (fun hv2 iv3 => (iv3 = 0 → (post hv2 (-1))) ∧ (¬ iv3 = 0 → (wp_X12_isIn hv2 x2 0 99 (fun hv4 iv5 => (iv5 = 0 → (post hv4 (-1))) ∧ (¬ iv5 = 0 → (wp_X12_isIn hv4 x3 0 1 (fun hv6 iv7 => (¬ iv7 = 0 → (∃ n, wl_X12_cut_45  post n hv6 a0 x1 x2 x3 (-1) 1000000000 0)) ∧ (iv7 = 0 → (post hv6 (-1))))))))))))
set_option maxRecDepth 100000 in
theorem c_X12_cut (G : GG) (h : AH) (a0 : Nat) (x1 : Int32) (x2 : Int32) (x3 : Int32) (post : AH → Int32 → Prop) (hw : wp_X12_cut h a0 x1 x2 x3 post) : MC G yX12_cut cX12_cut 9 (some .int) 3 75 h [.ref (G.1 + a0), .int x1, .int x2, .int x3] (pI post) := by
  refine MC.of (lv := [(0, .ref (G.1 + a0)), (1, .int x1), (2, .int x2), (3, .int x3)]) (by decide) (Nat.le_of_ble_eq_true rfl) rfl fun p l e R s m args below meth c C hr hnm => ?_
  unfold wp_X12_cut at hw
  refine r_aload_n C dX12_cut_0 0 rfl ?_
  refine r_iconst (v := 0) C dX12_cut_1 (by decide) ?_
  refine r_putI C fp_RX12_1_11 hw.1 rfl dX12_cut_2 ?_
  replace hw := hw.2
  refine r_toph fun hv1 ehv1 => ?_
  replace hw := hw hv1 ehv1
  refine r_aload_n C dX12_cut_5 0 rfl ?_
  refine r_iload_n C dX12_cut_6 1 rfl ?_
  have hob := hw.1
  replace hw := hw.2
  refine r_callV C (As := [.int x1]) (rest := []) (c_X12_isRaft G hv1 a0 x1 _ hw) yl_X12_isRaft (gm8 (List.mem_of_getElem? (i := 49) rfl) rfl) (gm8 (List.mem_of_getElem? (i := 51) rfl) rfl) (ci := 11) rfl (by decide) (gsel (List.mem_of_getElem? (i := 68) rfl)) hob (by decide) rfl (Nat.le_of_ble_eq_true rfl) dX12_cut_7 rfl (kI fun hv2 iv3 hw => ?_)
  refine r_if_eq C dX12_cut_10 32 (by decide) (fun hc => ?_) (fun hc => ?_)
  · replace hw := hw.1 hc
    refine r_iconst (v := (-1)) C dX12_cut_32 (by decide) ?_
    exact r_iret C hr dX12_cut_33 hw
  · replace hw := hw.2 hc
    refine r_iload_n C dX12_cut_13 2 rfl ?_
    refine r_iconst (v := 0) C dX12_cut_14 (by decide) ?_
    refine r_bipush (v := 99) C dX12_cut_15 (by decide) ?_
    refine r_callS C (As := [.int x2, .int 0, .int 99]) (rest := []) (c_X12_isIn G hv2 x2 0 99 _ hw) yl_X12_isIn (gm7 (List.mem_of_getElem? (i := 189) rfl) rfl) (gm7 (List.mem_of_getElem? (i := 190) rfl) rfl) (by decide) rfl (Nat.le_of_ble_eq_true rfl) dX12_cut_17 rfl (kI fun hv4 iv5 hw => ?_)
    refine r_if_eq C dX12_cut_20 32 (by decide) (fun hc => ?_) (fun hc => ?_)
    · replace hw := hw.1 hc
      refine r_iconst (v := (-1)) C dX12_cut_32 (by decide) ?_
      exact r_iret C hr dX12_cut_33 hw
    · replace hw := hw.2 hc
      refine r_iload_n C dX12_cut_23 3 rfl ?_
      refine r_iconst (v := 0) C dX12_cut_24 (by decide) ?_
      refine r_iconst (v := 1) C dX12_cut_25 (by decide) ?_
      refine r_callS C (As := [.int x3, .int 0, .int 1]) (rest := []) (c_X12_isIn G hv4 x3 0 1 _ hw) yl_X12_isIn (gm7 (List.mem_of_getElem? (i := 189) rfl) rfl) (gm7 (List.mem_of_getElem? (i := 190) rfl) rfl) (by decide) rfl (Nat.le_of_ble_eq_true rfl) dX12_cut_26 rfl (kI fun hv6 iv7 hw => ?_)
      refine r_if_ne C dX12_cut_29 34 (by decide) (fun hc => ?_) (fun hc => ?_)
      · replace hw := hw.1 hc
        refine r_iconst (v := (-1)) C dX12_cut_34 (by decide) ?_
        refine r_istore C dX12_cut_35 [(4, .int (-1)), (0, .ref (G.1 + a0)), (1, .int x1), (2, .int x2), (3, .int x3)] (by decide) rfl ?_
        refine r_ldcw (v := 1000000000) C (gm8 (List.mem_of_getElem? (i := 220) rfl) rfl) dX12_cut_37 ?_
        refine r_istore C dX12_cut_40 [(5, .int 1000000000), (4, .int (-1)), (0, .ref (G.1 + a0)), (1, .int x1), (2, .int x2), (3, .int x3)] (by decide) rfl ?_
        refine r_iconst (v := 0) C dX12_cut_42 (by decide) ?_
        refine r_istore C dX12_cut_43 [(6, .int 0), (5, .int 1000000000), (4, .int (-1)), (0, .ref (G.1 + a0)), (1, .int x1), (2, .int x2), (3, .int x3)] (by decide) rfl ?_
        refine r_sub [3, 4, 5, 6, 2, 1, 0] rfl ?_
        obtain ⟨n, hw⟩ := hw
        exact tl_X12_cut_45 C hr  n _ _ _ _ _ _ _ _ hw
      · replace hw := hw.2 hc
        refine r_iconst (v := (-1)) C dX12_cut_32 (by decide) ?_
        exact r_iret C hr dX12_cut_33 hw
theorem dX12_image_0 : decode cX12_image 0 = .ok (.aload_n 0, 1) := by decide +kernel
theorem dX12_image_1 : decode cX12_image 1 = .ok (.iconst 0, 1) := by decide +kernel
theorem dX12_image_2 : decode cX12_image 2 = .ok (.putfield 1, 3) := by decide +kernel
theorem dX12_image_5 : decode cX12_image 5 = .ok (.iload_n 1, 1) := by decide +kernel
theorem dX12_image_6 : decode cX12_image 6 = .ok (.iconst 0, 1) := by decide +kernel
theorem dX12_image_7 : decode cX12_image 7 = .ok (.iconst 1, 1) := by decide +kernel
theorem dX12_image_8 : decode cX12_image 8 = .ok (.invokestatic 196, 3) := by decide +kernel
theorem dX12_image_11 : decode cX12_image 11 = .ok (.ifCond .ne 5, 3) := by decide +kernel
theorem dX12_image_14 : decode cX12_image 14 = .ok (.iconst 0, 1) := by decide +kernel
theorem dX12_image_15 : decode cX12_image 15 = .ok (.ireturn, 1) := by decide +kernel
theorem dX12_image_16 : decode cX12_image 16 = .ok (.iconst 0, 1) := by decide +kernel
theorem dX12_image_17 : decode cX12_image 17 = .ok (.istore_n 2, 1) := by decide +kernel
theorem dX12_image_18 : decode cX12_image 18 = .ok (.iload_n 2, 1) := by decide +kernel
theorem dX12_image_19 : decode cX12_image 19 = .ok (.sipush 370, 3) := by decide +kernel
theorem dX12_image_22 : decode cX12_image 22 = .ok (.if_icmp .ge 27, 3) := by decide +kernel
theorem dX12_image_25 : decode cX12_image 25 = .ok (.aload_n 0, 1) := by decide +kernel
theorem dX12_image_26 : decode cX12_image 26 = .ok (.getfield 105, 3) := by decide +kernel
theorem dX12_image_29 : decode cX12_image 29 = .ok (.sipush 370, 3) := by decide +kernel
theorem dX12_image_32 : decode cX12_image 32 = .ok (.iload_n 1, 1) := by decide +kernel
theorem dX12_image_33 : decode cX12_image 33 = .ok (.imul, 1) := by decide +kernel
theorem dX12_image_34 : decode cX12_image 34 = .ok (.iload_n 2, 1) := by decide +kernel
theorem dX12_image_35 : decode cX12_image 35 = .ok (.iadd, 1) := by decide +kernel
theorem dX12_image_36 : decode cX12_image 36 = .ok (.aload_n 0, 1) := by decide +kernel
theorem dX12_image_37 : decode cX12_image 37 = .ok (.getfield 33, 3) := by decide +kernel
theorem dX12_image_40 : decode cX12_image 40 = .ok (.iload_n 2, 1) := by decide +kernel
theorem dX12_image_41 : decode cX12_image 41 = .ok (.iaload, 1) := by decide +kernel
theorem dX12_image_42 : decode cX12_image 42 = .ok (.iastore, 1) := by decide +kernel
theorem dX12_image_43 : decode cX12_image 43 = .ok (.iinc 2 1, 3) := by decide +kernel
theorem dX12_image_46 : decode cX12_image 46 = .ok (.goto (-28), 3) := by decide +kernel
theorem dX12_image_49 : decode cX12_image 49 = .ok (.iconst 0, 1) := by decide +kernel
theorem dX12_image_50 : decode cX12_image 50 = .ok (.istore_n 2, 1) := by decide +kernel
theorem dX12_image_51 : decode cX12_image 51 = .ok (.iload_n 2, 1) := by decide +kernel
theorem dX12_image_52 : decode cX12_image 52 = .ok (.bipush 8, 2) := by decide +kernel
theorem dX12_image_54 : decode cX12_image 54 = .ok (.if_icmp .ge 26, 3) := by decide +kernel
theorem dX12_image_57 : decode cX12_image 57 = .ok (.aload_n 0, 1) := by decide +kernel
theorem dX12_image_58 : decode cX12_image 58 = .ok (.getfield 108, 3) := by decide +kernel
theorem dX12_image_61 : decode cX12_image 61 = .ok (.bipush 8, 2) := by decide +kernel
theorem dX12_image_63 : decode cX12_image 63 = .ok (.iload_n 1, 1) := by decide +kernel
theorem dX12_image_64 : decode cX12_image 64 = .ok (.imul, 1) := by decide +kernel
theorem dX12_image_65 : decode cX12_image 65 = .ok (.iload_n 2, 1) := by decide +kernel
theorem dX12_image_66 : decode cX12_image 66 = .ok (.iadd, 1) := by decide +kernel
theorem dX12_image_67 : decode cX12_image 67 = .ok (.aload_n 0, 1) := by decide +kernel
theorem dX12_image_68 : decode cX12_image 68 = .ok (.getfield 43, 3) := by decide +kernel
theorem dX12_image_71 : decode cX12_image 71 = .ok (.iload_n 2, 1) := by decide +kernel
theorem dX12_image_72 : decode cX12_image 72 = .ok (.laload, 1) := by decide +kernel
theorem dX12_image_73 : decode cX12_image 73 = .ok (.lastore, 1) := by decide +kernel
theorem dX12_image_74 : decode cX12_image 74 = .ok (.iinc 2 1, 3) := by decide +kernel
theorem dX12_image_77 : decode cX12_image 77 = .ok (.goto (-26), 3) := by decide +kernel
theorem dX12_image_80 : decode cX12_image 80 = .ok (.aload_n 0, 1) := by decide +kernel
theorem dX12_image_81 : decode cX12_image 81 = .ok (.getfield 111, 3) := by decide +kernel
theorem dX12_image_84 : decode cX12_image 84 = .ok (.iload_n 1, 1) := by decide +kernel
theorem dX12_image_85 : decode cX12_image 85 = .ok (.iconst 1, 1) := by decide +kernel
theorem dX12_image_86 : decode cX12_image 86 = .ok (.bastore, 1) := by decide +kernel
theorem dX12_image_87 : decode cX12_image 87 = .ok (.iconst 1, 1) := by decide +kernel
theorem dX12_image_88 : decode cX12_image 88 = .ok (.ireturn, 1) := by decide +kernel
def wb_X12_image_51 (K51 : AH → Nat → Int32 → Int32 → Prop) (h : AH) (al0 : Nat) (xl1 : Int32) (xl2 : Int32)  (post : AH → Int32 → Prop) : Prop := (8 ≤ xl2 → ((ob h al0 11) ∧ (∃ rv1, aP h al0 52 = some rv1 ∧ ((ob h rv1 15) ∧ ((vp_in xl1 (aL h rv1)) ∧ (∀ hv2 : AH, hv2 = hI h rv1 xl1.toNatClampNeg (vp_nar .boolean 1) → (((1 : Int32) = 0 ∨ (1 : Int32) = 1) ∧ post hv2 1))))))) ∧ (¬ 8 ≤ xl2 → ((ob h al0 11) ∧ (∃ rv3, aP h al0 51 = some rv3 ∧ ((ob h al0 11) ∧ (∃ rv4, aP h al0 9 = some rv4 ∧ ((ob h rv4 14) ∧ ((vp_in xl2 (aL h rv4)) ∧ ((ob h rv3 14) ∧ ((vp_in (((8 : Int32) * xl1) + xl2) (aL h rv3)) ∧ (∀ hv5 : AH, hv5 = hJ h rv3 (((8 : Int32) * xl1) + xl2).toNatClampNeg (aJ h rv4 xl2.toNatClampNeg) → (∀ iv6 : Int32, iv6 = xl2 + 1 → (K51 hv5 al0 xl1 iv6))))))))))))
set_option maxRecDepth 100000 in
theorem tb_X12_image_51 {G : GG} {p : Program} {l : Launch} {e : Env} {R : Room} {s : State} {m : MethodId} {args : Array Value} {below : List Frame} {meth : Method} {c : Code} {n0 s0 : Nat} {post : AH → Int32 → Prop} (C : Cx G p R s m args meth c 3 cX12_image RX12 n0 s0 1 22) (hr : meth.sig.returnType = (some .boolean)) {K51 : AH → Nat → Int32 → Int32 → Prop} (hK51 : ∀ (h : AH) (al0 : Nat) (xl1 : Int32) (xl2 : Int32), K51 h al0 xl1 xl2 → AW G p l e R s m args below meth c 3 (QM G (pI post) args s below n0 s0) 51 [(0, .ref (G.1 + al0)), (1, .int xl1), (2, .int xl2)] [] h) {h : AH} {al0 : Nat} {xl1 : Int32} {xl2 : Int32}  (hw : wb_X12_image_51 K51 h al0 xl1 xl2 post) : AW G p l e R s m args below meth c 3 (QM G (pI post) args s below n0 s0) 51 [(0, .ref (G.1 + al0)), (1, .int xl1), (2, .int xl2)] [] h := by
  unfold wb_X12_image_51 at hw
  refine r_iload_n C dX12_image_51 2 rfl ?_
  refine r_bipush (v := 8) C dX12_image_52 (by decide) ?_
  refine r_icmp_ge C dX12_image_54 80 (by decide) (fun hc => ?_) (fun hc => ?_)
  · replace hw := hw.1 hc
    refine r_aload_n C dX12_image_80 0 rfl ?_
    have hob := hw.1
    obtain ⟨rv1, hp, hw⟩ := hw.2
    refine r_getP C fl_RX12_111_11 hob hp (fun _ _ _ => rfl) dX12_image_81 ?_
    refine r_iload_n C dX12_image_84 1 rfl ?_
    refine r_iconst (v := 1) C dX12_image_85 (by decide) ?_
    refine r_zastore C hw.1 hw.2.1 dX12_image_86 ?_
    replace hw := hw.2.2
    refine r_toph fun hv2 ehv2 => ?_
    replace hw := hw hv2 ehv2
    refine r_iconst (v := 1) C dX12_image_87 (by decide) ?_
    exact r_zret C hr dX12_image_88 hw.1 hw.2
  · replace hw := hw.2 hc
    refine r_aload_n C dX12_image_57 0 rfl ?_
    have hob := hw.1
    obtain ⟨rv3, hp, hw⟩ := hw.2
    refine r_getP C fl_RX12_108_11 hob hp (fun _ _ _ => rfl) dX12_image_58 ?_
    refine r_bipush (v := 8) C dX12_image_61 (by decide) ?_
    refine r_iload_n C dX12_image_63 1 rfl ?_
    refine r_imul C dX12_image_64 ?_
    refine r_iload_n C dX12_image_65 2 rfl ?_
    refine r_iadd C dX12_image_66 ?_
    refine r_aload_n C dX12_image_67 0 rfl ?_
    have hob := hw.1
    obtain ⟨rv4, hp, hw⟩ := hw.2
    refine r_getP C fl_RX12_43_11 hob hp (fun _ _ _ => rfl) dX12_image_68 ?_
    refine r_iload_n C dX12_image_71 2 rfl ?_
    refine r_laload C hw.1 hw.2.1 dX12_image_72 ?_
    replace hw := hw.2.2
    refine r_lastore C hw.1 hw.2.1 dX12_image_73 ?_
    replace hw := hw.2.2
    refine r_toph fun hv5 ehv5 => ?_
    replace hw := hw hv5 ehv5
    obtain ⟨iv6, eiv6⟩ : ∃ q : Int32, q = xl2 + 1 := ⟨_, rfl⟩
    replace hw := hw iv6 eiv6
    refine r_iinc C dX12_image_74 2 rfl (by rw [eiv6]; rfl) [(2, .int iv6), (0, .ref (G.1 + al0)), (1, .int xl1)] (by decide) rfl ?_
    refine r_goto C dX12_image_77 51 (by decide) ?_
    refine r_sub [1, 2, 0] rfl ?_
    exact hK51 _ _ _ _ hw
def wl_X12_image_51  (post : AH → Int32 → Prop) : Nat → AH → Nat → Int32 → Int32 → Prop
  | 0 => fun _ _ _ _ => False
  | n + 1 => fun h al0 xl1 xl2 => wb_X12_image_51  (wl_X12_image_51  post n) h al0 xl1 xl2 post
theorem tl_X12_image_51 {G : GG} {p : Program} {l : Launch} {e : Env} {R : Room} {s : State} {m : MethodId} {args : Array Value} {below : List Frame} {meth : Method} {c : Code} {n0 s0 : Nat} {post : AH → Int32 → Prop} (C : Cx G p R s m args meth c 3 cX12_image RX12 n0 s0 1 22) (hr : meth.sig.returnType = (some .boolean))   : ∀ (n : Nat) (h : AH) (al0 : Nat) (xl1 : Int32) (xl2 : Int32), wl_X12_image_51  post n h al0 xl1 xl2 → AW G p l e R s m args below meth c 3 (QM G (pI post) args s below n0 s0) 51 [(0, .ref (G.1 + al0)), (1, .int xl1), (2, .int xl2)] [] h := by
  intro n
  induction n with
  | zero => intro h al0 xl1 xl2 hw; exact hw.elim
  | succ n ih => intro h al0 xl1 xl2 hw; exact tb_X12_image_51 C hr  ih hw
def wb_X12_image_18 (K18 : AH → Nat → Int32 → Int32 → Prop) (h : AH) (al0 : Nat) (xl1 : Int32) (xl2 : Int32)  (post : AH → Int32 → Prop) : Prop := (370 ≤ xl2 → (∃ n, wl_X12_image_51  post n h al0 xl1 0)) ∧ (¬ 370 ≤ xl2 → ((ob h al0 11) ∧ (∃ rv1, aP h al0 50 = some rv1 ∧ ((ob h al0 11) ∧ (∃ rv2, aP h al0 6 = some rv2 ∧ ((ob h rv2 13) ∧ ((vp_in xl2 (aL h rv2)) ∧ ((ob h rv1 13) ∧ ((vp_in (((370 : Int32) * xl1) + xl2) (aL h rv1)) ∧ (∀ hv3 : AH, hv3 = hI h rv1 (((370 : Int32) * xl1) + xl2).toNatClampNeg (aI h rv2 xl2.toNatClampNeg) → (∀ iv4 : Int32, iv4 = xl2 + 1 → (K18 hv3 al0 xl1 iv4))))))))))))
set_option maxRecDepth 100000 in
theorem tb_X12_image_18 {G : GG} {p : Program} {l : Launch} {e : Env} {R : Room} {s : State} {m : MethodId} {args : Array Value} {below : List Frame} {meth : Method} {c : Code} {n0 s0 : Nat} {post : AH → Int32 → Prop} (C : Cx G p R s m args meth c 3 cX12_image RX12 n0 s0 1 22) (hr : meth.sig.returnType = (some .boolean)) {K18 : AH → Nat → Int32 → Int32 → Prop} (hK18 : ∀ (h : AH) (al0 : Nat) (xl1 : Int32) (xl2 : Int32), K18 h al0 xl1 xl2 → AW G p l e R s m args below meth c 3 (QM G (pI post) args s below n0 s0) 18 [(0, .ref (G.1 + al0)), (1, .int xl1), (2, .int xl2)] [] h) {h : AH} {al0 : Nat} {xl1 : Int32} {xl2 : Int32}  (hw : wb_X12_image_18 K18 h al0 xl1 xl2 post) : AW G p l e R s m args below meth c 3 (QM G (pI post) args s below n0 s0) 18 [(0, .ref (G.1 + al0)), (1, .int xl1), (2, .int xl2)] [] h := by
  unfold wb_X12_image_18 at hw
  refine r_iload_n C dX12_image_18 2 rfl ?_
  refine r_sipush (v := 370) C dX12_image_19 (by decide) ?_
  refine r_icmp_ge C dX12_image_22 49 (by decide) (fun hc => ?_) (fun hc => ?_)
  · replace hw := hw.1 hc
    refine r_iconst (v := 0) C dX12_image_49 (by decide) ?_
    refine r_istore_n C dX12_image_50 [(2, .int 0), (0, .ref (G.1 + al0)), (1, .int xl1)] (by decide) rfl ?_
    refine r_sub [1, 2, 0] rfl ?_
    obtain ⟨n, hw⟩ := hw
    exact tl_X12_image_51 C hr  n _ _ _ _ hw
  · replace hw := hw.2 hc
    refine r_aload_n C dX12_image_25 0 rfl ?_
    have hob := hw.1
    obtain ⟨rv1, hp, hw⟩ := hw.2
    refine r_getP C fl_RX12_105_11 hob hp (fun _ _ _ => rfl) dX12_image_26 ?_
    refine r_sipush (v := 370) C dX12_image_29 (by decide) ?_
    refine r_iload_n C dX12_image_32 1 rfl ?_
    refine r_imul C dX12_image_33 ?_
    refine r_iload_n C dX12_image_34 2 rfl ?_
    refine r_iadd C dX12_image_35 ?_
    refine r_aload_n C dX12_image_36 0 rfl ?_
    have hob := hw.1
    obtain ⟨rv2, hp, hw⟩ := hw.2
    refine r_getP C fl_RX12_33_11 hob hp (fun _ _ _ => rfl) dX12_image_37 ?_
    refine r_iload_n C dX12_image_40 2 rfl ?_
    refine r_iaload C hw.1 hw.2.1 dX12_image_41 ?_
    replace hw := hw.2.2
    refine r_iastore C hw.1 hw.2.1 dX12_image_42 ?_
    replace hw := hw.2.2
    refine r_toph fun hv3 ehv3 => ?_
    replace hw := hw hv3 ehv3
    obtain ⟨iv4, eiv4⟩ : ∃ q : Int32, q = xl2 + 1 := ⟨_, rfl⟩
    replace hw := hw iv4 eiv4
    refine r_iinc C dX12_image_43 2 rfl (by rw [eiv4]; rfl) [(2, .int iv4), (0, .ref (G.1 + al0)), (1, .int xl1)] (by decide) rfl ?_
    refine r_goto C dX12_image_46 18 (by decide) ?_
    refine r_sub [1, 2, 0] rfl ?_
    exact hK18 _ _ _ _ hw
def wl_X12_image_18  (post : AH → Int32 → Prop) : Nat → AH → Nat → Int32 → Int32 → Prop
  | 0 => fun _ _ _ _ => False
  | n + 1 => fun h al0 xl1 xl2 => wb_X12_image_18  (wl_X12_image_18  post n) h al0 xl1 xl2 post
theorem tl_X12_image_18 {G : GG} {p : Program} {l : Launch} {e : Env} {R : Room} {s : State} {m : MethodId} {args : Array Value} {below : List Frame} {meth : Method} {c : Code} {n0 s0 : Nat} {post : AH → Int32 → Prop} (C : Cx G p R s m args meth c 3 cX12_image RX12 n0 s0 1 22) (hr : meth.sig.returnType = (some .boolean))   : ∀ (n : Nat) (h : AH) (al0 : Nat) (xl1 : Int32) (xl2 : Int32), wl_X12_image_18  post n h al0 xl1 xl2 → AW G p l e R s m args below meth c 3 (QM G (pI post) args s below n0 s0) 18 [(0, .ref (G.1 + al0)), (1, .int xl1), (2, .int xl2)] [] h := by
  intro n
  induction n with
  | zero => intro h al0 xl1 xl2 hw; exact hw.elim
  | succ n ih => intro h al0 xl1 xl2 hw; exact tb_X12_image_18 C hr  ih hw
def wp_X12_image (h : AH) (a0 : Nat) (x1 : Int32) (post : AH → Int32 → Prop) : Prop := (ob h a0 11) ∧ (∀ hv1 : AH, hv1 = hI h a0 0 0 → (wp_X12_isIn hv1 x1 0 1 (fun hv2 iv3 => (¬ iv3 = 0 → (∃ n, wl_X12_image_18  post n hv2 a0 x1 0)) ∧ (iv3 = 0 → (((0 : Int32) = 0 ∨ (0 : Int32) = 1) ∧ post hv2 0)))))
set_option maxRecDepth 100000 in
theorem c_X12_image (G : GG) (h : AH) (a0 : Nat) (x1 : Int32) (post : AH → Int32 → Prop) (hw : wp_X12_image h a0 x1 post) : MC G yX12_image cX12_image 3 (some .boolean) 1 22 h [.ref (G.1 + a0), .int x1] (pI post) := by
  refine MC.of (lv := [(0, .ref (G.1 + a0)), (1, .int x1)]) (by decide) (Nat.le_of_ble_eq_true rfl) rfl fun p l e R s m args below meth c C hr hnm => ?_
  unfold wp_X12_image at hw
  refine r_aload_n C dX12_image_0 0 rfl ?_
  refine r_iconst (v := 0) C dX12_image_1 (by decide) ?_
  refine r_putI C fp_RX12_1_11 hw.1 rfl dX12_image_2 ?_
  replace hw := hw.2
  refine r_toph fun hv1 ehv1 => ?_
  replace hw := hw hv1 ehv1
  refine r_iload_n C dX12_image_5 1 rfl ?_
  refine r_iconst (v := 0) C dX12_image_6 (by decide) ?_
  refine r_iconst (v := 1) C dX12_image_7 (by decide) ?_
  refine r_callS C (As := [.int x1, .int 0, .int 1]) (rest := []) (c_X12_isIn G hv1 x1 0 1 _ hw) yl_X12_isIn (gm7 (List.mem_of_getElem? (i := 189) rfl) rfl) (gm7 (List.mem_of_getElem? (i := 190) rfl) rfl) (by decide) rfl (Nat.le_of_ble_eq_true rfl) dX12_image_8 rfl (kI fun hv2 iv3 hw => ?_)
  refine r_if_ne C dX12_image_11 16 (by decide) (fun hc => ?_) (fun hc => ?_)
  · replace hw := hw.1 hc
    refine r_iconst (v := 0) C dX12_image_16 (by decide) ?_
    refine r_istore_n C dX12_image_17 [(2, .int 0), (0, .ref (G.1 + a0)), (1, .int x1)] (by decide) rfl ?_
    refine r_sub [1, 2, 0] rfl ?_
    obtain ⟨n, hw⟩ := hw
    exact tl_X12_image_18 C hr  n _ _ _ _ hw
  · replace hw := hw.2 hc
    refine r_iconst (v := 0) C dX12_image_14 (by decide) ?_
    exact r_zret C hr dX12_image_15 hw.1 hw.2
theorem dX12_restore_0 : decode cX12_restore 0 = .ok (.aload_n 0, 1) := by decide +kernel
theorem dX12_restore_1 : decode cX12_restore 1 = .ok (.iconst 0, 1) := by decide +kernel
theorem dX12_restore_2 : decode cX12_restore 2 = .ok (.putfield 1, 3) := by decide +kernel
theorem dX12_restore_5 : decode cX12_restore 5 = .ok (.iload_n 1, 1) := by decide +kernel
theorem dX12_restore_6 : decode cX12_restore 6 = .ok (.iconst 0, 1) := by decide +kernel
theorem dX12_restore_7 : decode cX12_restore 7 = .ok (.iconst 1, 1) := by decide +kernel
theorem dX12_restore_8 : decode cX12_restore 8 = .ok (.invokestatic 196, 3) := by decide +kernel
theorem dX12_restore_11 : decode cX12_restore 11 = .ok (.ifCond .eq 12, 3) := by decide +kernel
theorem dX12_restore_14 : decode cX12_restore 14 = .ok (.aload_n 0, 1) := by decide +kernel
theorem dX12_restore_15 : decode cX12_restore 15 = .ok (.getfield 111, 3) := by decide +kernel
theorem dX12_restore_18 : decode cX12_restore 18 = .ok (.iload_n 1, 1) := by decide +kernel
theorem dX12_restore_19 : decode cX12_restore 19 = .ok (.baload, 1) := by decide +kernel
theorem dX12_restore_20 : decode cX12_restore 20 = .ok (.ifCond .ne 5, 3) := by decide +kernel
theorem dX12_restore_23 : decode cX12_restore 23 = .ok (.iconst 0, 1) := by decide +kernel
theorem dX12_restore_24 : decode cX12_restore 24 = .ok (.ireturn, 1) := by decide +kernel
theorem dX12_restore_25 : decode cX12_restore 25 = .ok (.iconst 0, 1) := by decide +kernel
theorem dX12_restore_26 : decode cX12_restore 26 = .ok (.istore_n 2, 1) := by decide +kernel
theorem dX12_restore_27 : decode cX12_restore 27 = .ok (.iload_n 2, 1) := by decide +kernel
theorem dX12_restore_28 : decode cX12_restore 28 = .ok (.sipush 370, 3) := by decide +kernel
theorem dX12_restore_31 : decode cX12_restore 31 = .ok (.if_icmp .ge 27, 3) := by decide +kernel
theorem dX12_restore_34 : decode cX12_restore 34 = .ok (.aload_n 0, 1) := by decide +kernel
theorem dX12_restore_35 : decode cX12_restore 35 = .ok (.getfield 33, 3) := by decide +kernel
theorem dX12_restore_38 : decode cX12_restore 38 = .ok (.iload_n 2, 1) := by decide +kernel
theorem dX12_restore_39 : decode cX12_restore 39 = .ok (.aload_n 0, 1) := by decide +kernel
theorem dX12_restore_40 : decode cX12_restore 40 = .ok (.getfield 105, 3) := by decide +kernel
theorem dX12_restore_43 : decode cX12_restore 43 = .ok (.sipush 370, 3) := by decide +kernel
theorem dX12_restore_46 : decode cX12_restore 46 = .ok (.iload_n 1, 1) := by decide +kernel
theorem dX12_restore_47 : decode cX12_restore 47 = .ok (.imul, 1) := by decide +kernel
theorem dX12_restore_48 : decode cX12_restore 48 = .ok (.iload_n 2, 1) := by decide +kernel
theorem dX12_restore_49 : decode cX12_restore 49 = .ok (.iadd, 1) := by decide +kernel
theorem dX12_restore_50 : decode cX12_restore 50 = .ok (.iaload, 1) := by decide +kernel
theorem dX12_restore_51 : decode cX12_restore 51 = .ok (.iastore, 1) := by decide +kernel
theorem dX12_restore_52 : decode cX12_restore 52 = .ok (.iinc 2 1, 3) := by decide +kernel
theorem dX12_restore_55 : decode cX12_restore 55 = .ok (.goto (-28), 3) := by decide +kernel
theorem dX12_restore_58 : decode cX12_restore 58 = .ok (.iconst 0, 1) := by decide +kernel
theorem dX12_restore_59 : decode cX12_restore 59 = .ok (.istore_n 2, 1) := by decide +kernel
theorem dX12_restore_60 : decode cX12_restore 60 = .ok (.iload_n 2, 1) := by decide +kernel
theorem dX12_restore_61 : decode cX12_restore 61 = .ok (.bipush 8, 2) := by decide +kernel
theorem dX12_restore_63 : decode cX12_restore 63 = .ok (.if_icmp .ge 26, 3) := by decide +kernel
theorem dX12_restore_66 : decode cX12_restore 66 = .ok (.aload_n 0, 1) := by decide +kernel
theorem dX12_restore_67 : decode cX12_restore 67 = .ok (.getfield 43, 3) := by decide +kernel
theorem dX12_restore_70 : decode cX12_restore 70 = .ok (.iload_n 2, 1) := by decide +kernel
theorem dX12_restore_71 : decode cX12_restore 71 = .ok (.aload_n 0, 1) := by decide +kernel
theorem dX12_restore_72 : decode cX12_restore 72 = .ok (.getfield 108, 3) := by decide +kernel
theorem dX12_restore_75 : decode cX12_restore 75 = .ok (.bipush 8, 2) := by decide +kernel
theorem dX12_restore_77 : decode cX12_restore 77 = .ok (.iload_n 1, 1) := by decide +kernel
theorem dX12_restore_78 : decode cX12_restore 78 = .ok (.imul, 1) := by decide +kernel
theorem dX12_restore_79 : decode cX12_restore 79 = .ok (.iload_n 2, 1) := by decide +kernel
theorem dX12_restore_80 : decode cX12_restore 80 = .ok (.iadd, 1) := by decide +kernel
theorem dX12_restore_81 : decode cX12_restore 81 = .ok (.laload, 1) := by decide +kernel
theorem dX12_restore_82 : decode cX12_restore 82 = .ok (.lastore, 1) := by decide +kernel
theorem dX12_restore_83 : decode cX12_restore 83 = .ok (.iinc 2 1, 3) := by decide +kernel
theorem dX12_restore_86 : decode cX12_restore 86 = .ok (.goto (-26), 3) := by decide +kernel
theorem dX12_restore_89 : decode cX12_restore 89 = .ok (.iconst 1, 1) := by decide +kernel
theorem dX12_restore_90 : decode cX12_restore 90 = .ok (.ireturn, 1) := by decide +kernel
def wb_X12_restore_60 (K60 : AH → Nat → Int32 → Int32 → Prop) (h : AH) (al0 : Nat) (xl1 : Int32) (xl2 : Int32)  (post : AH → Int32 → Prop) : Prop := (8 ≤ xl2 → (((1 : Int32) = 0 ∨ (1 : Int32) = 1) ∧ post h 1)) ∧ (¬ 8 ≤ xl2 → ((ob h al0 11) ∧ (∃ rv1, aP h al0 9 = some rv1 ∧ ((ob h al0 11) ∧ (∃ rv2, aP h al0 51 = some rv2 ∧ ((ob h rv2 14) ∧ ((vp_in (((8 : Int32) * xl1) + xl2) (aL h rv2)) ∧ ((ob h rv1 14) ∧ ((vp_in xl2 (aL h rv1)) ∧ (∀ hv3 : AH, hv3 = hJ h rv1 xl2.toNatClampNeg (aJ h rv2 (((8 : Int32) * xl1) + xl2).toNatClampNeg) → (∀ iv4 : Int32, iv4 = xl2 + 1 → (K60 hv3 al0 xl1 iv4))))))))))))
set_option maxRecDepth 100000 in
theorem tb_X12_restore_60 {G : GG} {p : Program} {l : Launch} {e : Env} {R : Room} {s : State} {m : MethodId} {args : Array Value} {below : List Frame} {meth : Method} {c : Code} {n0 s0 : Nat} {post : AH → Int32 → Prop} (C : Cx G p R s m args meth c 3 cX12_restore RX12 n0 s0 1 22) (hr : meth.sig.returnType = (some .boolean)) {K60 : AH → Nat → Int32 → Int32 → Prop} (hK60 : ∀ (h : AH) (al0 : Nat) (xl1 : Int32) (xl2 : Int32), K60 h al0 xl1 xl2 → AW G p l e R s m args below meth c 3 (QM G (pI post) args s below n0 s0) 60 [(0, .ref (G.1 + al0)), (1, .int xl1), (2, .int xl2)] [] h) {h : AH} {al0 : Nat} {xl1 : Int32} {xl2 : Int32}  (hw : wb_X12_restore_60 K60 h al0 xl1 xl2 post) : AW G p l e R s m args below meth c 3 (QM G (pI post) args s below n0 s0) 60 [(0, .ref (G.1 + al0)), (1, .int xl1), (2, .int xl2)] [] h := by
  unfold wb_X12_restore_60 at hw
  refine r_iload_n C dX12_restore_60 2 rfl ?_
  refine r_bipush (v := 8) C dX12_restore_61 (by decide) ?_
  refine r_icmp_ge C dX12_restore_63 89 (by decide) (fun hc => ?_) (fun hc => ?_)
  · replace hw := hw.1 hc
    refine r_iconst (v := 1) C dX12_restore_89 (by decide) ?_
    exact r_zret C hr dX12_restore_90 hw.1 hw.2
  · replace hw := hw.2 hc
    refine r_aload_n C dX12_restore_66 0 rfl ?_
    have hob := hw.1
    obtain ⟨rv1, hp, hw⟩ := hw.2
    refine r_getP C fl_RX12_43_11 hob hp (fun _ _ _ => rfl) dX12_restore_67 ?_
    refine r_iload_n C dX12_restore_70 2 rfl ?_
    refine r_aload_n C dX12_restore_71 0 rfl ?_
    have hob := hw.1
    obtain ⟨rv2, hp, hw⟩ := hw.2
    refine r_getP C fl_RX12_108_11 hob hp (fun _ _ _ => rfl) dX12_restore_72 ?_
    refine r_bipush (v := 8) C dX12_restore_75 (by decide) ?_
    refine r_iload_n C dX12_restore_77 1 rfl ?_
    refine r_imul C dX12_restore_78 ?_
    refine r_iload_n C dX12_restore_79 2 rfl ?_
    refine r_iadd C dX12_restore_80 ?_
    refine r_laload C hw.1 hw.2.1 dX12_restore_81 ?_
    replace hw := hw.2.2
    refine r_lastore C hw.1 hw.2.1 dX12_restore_82 ?_
    replace hw := hw.2.2
    refine r_toph fun hv3 ehv3 => ?_
    replace hw := hw hv3 ehv3
    obtain ⟨iv4, eiv4⟩ : ∃ q : Int32, q = xl2 + 1 := ⟨_, rfl⟩
    replace hw := hw iv4 eiv4
    refine r_iinc C dX12_restore_83 2 rfl (by rw [eiv4]; rfl) [(2, .int iv4), (0, .ref (G.1 + al0)), (1, .int xl1)] (by decide) rfl ?_
    refine r_goto C dX12_restore_86 60 (by decide) ?_
    refine r_sub [1, 2, 0] rfl ?_
    exact hK60 _ _ _ _ hw
def wl_X12_restore_60  (post : AH → Int32 → Prop) : Nat → AH → Nat → Int32 → Int32 → Prop
  | 0 => fun _ _ _ _ => False
  | n + 1 => fun h al0 xl1 xl2 => wb_X12_restore_60  (wl_X12_restore_60  post n) h al0 xl1 xl2 post
theorem tl_X12_restore_60 {G : GG} {p : Program} {l : Launch} {e : Env} {R : Room} {s : State} {m : MethodId} {args : Array Value} {below : List Frame} {meth : Method} {c : Code} {n0 s0 : Nat} {post : AH → Int32 → Prop} (C : Cx G p R s m args meth c 3 cX12_restore RX12 n0 s0 1 22) (hr : meth.sig.returnType = (some .boolean))   : ∀ (n : Nat) (h : AH) (al0 : Nat) (xl1 : Int32) (xl2 : Int32), wl_X12_restore_60  post n h al0 xl1 xl2 → AW G p l e R s m args below meth c 3 (QM G (pI post) args s below n0 s0) 60 [(0, .ref (G.1 + al0)), (1, .int xl1), (2, .int xl2)] [] h := by
  intro n
  induction n with
  | zero => intro h al0 xl1 xl2 hw; exact hw.elim
  | succ n ih => intro h al0 xl1 xl2 hw; exact tb_X12_restore_60 C hr  ih hw
def wb_X12_restore_27 (K27 : AH → Nat → Int32 → Int32 → Prop) (h : AH) (al0 : Nat) (xl1 : Int32) (xl2 : Int32)  (post : AH → Int32 → Prop) : Prop := (370 ≤ xl2 → (∃ n, wl_X12_restore_60  post n h al0 xl1 0)) ∧ (¬ 370 ≤ xl2 → ((ob h al0 11) ∧ (∃ rv1, aP h al0 6 = some rv1 ∧ ((ob h al0 11) ∧ (∃ rv2, aP h al0 50 = some rv2 ∧ ((ob h rv2 13) ∧ ((vp_in (((370 : Int32) * xl1) + xl2) (aL h rv2)) ∧ ((ob h rv1 13) ∧ ((vp_in xl2 (aL h rv1)) ∧ (∀ hv3 : AH, hv3 = hI h rv1 xl2.toNatClampNeg (aI h rv2 (((370 : Int32) * xl1) + xl2).toNatClampNeg) → (∀ iv4 : Int32, iv4 = xl2 + 1 → (K27 hv3 al0 xl1 iv4))))))))))))
set_option maxRecDepth 100000 in
theorem tb_X12_restore_27 {G : GG} {p : Program} {l : Launch} {e : Env} {R : Room} {s : State} {m : MethodId} {args : Array Value} {below : List Frame} {meth : Method} {c : Code} {n0 s0 : Nat} {post : AH → Int32 → Prop} (C : Cx G p R s m args meth c 3 cX12_restore RX12 n0 s0 1 22) (hr : meth.sig.returnType = (some .boolean)) {K27 : AH → Nat → Int32 → Int32 → Prop} (hK27 : ∀ (h : AH) (al0 : Nat) (xl1 : Int32) (xl2 : Int32), K27 h al0 xl1 xl2 → AW G p l e R s m args below meth c 3 (QM G (pI post) args s below n0 s0) 27 [(0, .ref (G.1 + al0)), (1, .int xl1), (2, .int xl2)] [] h) {h : AH} {al0 : Nat} {xl1 : Int32} {xl2 : Int32}  (hw : wb_X12_restore_27 K27 h al0 xl1 xl2 post) : AW G p l e R s m args below meth c 3 (QM G (pI post) args s below n0 s0) 27 [(0, .ref (G.1 + al0)), (1, .int xl1), (2, .int xl2)] [] h := by
  unfold wb_X12_restore_27 at hw
  refine r_iload_n C dX12_restore_27 2 rfl ?_
  refine r_sipush (v := 370) C dX12_restore_28 (by decide) ?_
  refine r_icmp_ge C dX12_restore_31 58 (by decide) (fun hc => ?_) (fun hc => ?_)
  · replace hw := hw.1 hc
    refine r_iconst (v := 0) C dX12_restore_58 (by decide) ?_
    refine r_istore_n C dX12_restore_59 [(2, .int 0), (0, .ref (G.1 + al0)), (1, .int xl1)] (by decide) rfl ?_
    refine r_sub [1, 2, 0] rfl ?_
    obtain ⟨n, hw⟩ := hw
    exact tl_X12_restore_60 C hr  n _ _ _ _ hw
  · replace hw := hw.2 hc
    refine r_aload_n C dX12_restore_34 0 rfl ?_
    have hob := hw.1
    obtain ⟨rv1, hp, hw⟩ := hw.2
    refine r_getP C fl_RX12_33_11 hob hp (fun _ _ _ => rfl) dX12_restore_35 ?_
    refine r_iload_n C dX12_restore_38 2 rfl ?_
    refine r_aload_n C dX12_restore_39 0 rfl ?_
    have hob := hw.1
    obtain ⟨rv2, hp, hw⟩ := hw.2
    refine r_getP C fl_RX12_105_11 hob hp (fun _ _ _ => rfl) dX12_restore_40 ?_
    refine r_sipush (v := 370) C dX12_restore_43 (by decide) ?_
    refine r_iload_n C dX12_restore_46 1 rfl ?_
    refine r_imul C dX12_restore_47 ?_
    refine r_iload_n C dX12_restore_48 2 rfl ?_
    refine r_iadd C dX12_restore_49 ?_
    refine r_iaload C hw.1 hw.2.1 dX12_restore_50 ?_
    replace hw := hw.2.2
    refine r_iastore C hw.1 hw.2.1 dX12_restore_51 ?_
    replace hw := hw.2.2
    refine r_toph fun hv3 ehv3 => ?_
    replace hw := hw hv3 ehv3
    obtain ⟨iv4, eiv4⟩ : ∃ q : Int32, q = xl2 + 1 := ⟨_, rfl⟩
    replace hw := hw iv4 eiv4
    refine r_iinc C dX12_restore_52 2 rfl (by rw [eiv4]; rfl) [(2, .int iv4), (0, .ref (G.1 + al0)), (1, .int xl1)] (by decide) rfl ?_
    refine r_goto C dX12_restore_55 27 (by decide) ?_
    refine r_sub [1, 2, 0] rfl ?_
    exact hK27 _ _ _ _ hw
def wl_X12_restore_27  (post : AH → Int32 → Prop) : Nat → AH → Nat → Int32 → Int32 → Prop
  | 0 => fun _ _ _ _ => False
  | n + 1 => fun h al0 xl1 xl2 => wb_X12_restore_27  (wl_X12_restore_27  post n) h al0 xl1 xl2 post
theorem tl_X12_restore_27 {G : GG} {p : Program} {l : Launch} {e : Env} {R : Room} {s : State} {m : MethodId} {args : Array Value} {below : List Frame} {meth : Method} {c : Code} {n0 s0 : Nat} {post : AH → Int32 → Prop} (C : Cx G p R s m args meth c 3 cX12_restore RX12 n0 s0 1 22) (hr : meth.sig.returnType = (some .boolean))   : ∀ (n : Nat) (h : AH) (al0 : Nat) (xl1 : Int32) (xl2 : Int32), wl_X12_restore_27  post n h al0 xl1 xl2 → AW G p l e R s m args below meth c 3 (QM G (pI post) args s below n0 s0) 27 [(0, .ref (G.1 + al0)), (1, .int xl1), (2, .int xl2)] [] h := by
  intro n
  induction n with
  | zero => intro h al0 xl1 xl2 hw; exact hw.elim
  | succ n ih => intro h al0 xl1 xl2 hw; exact tb_X12_restore_27 C hr  ih hw
def wp_X12_restore (h : AH) (a0 : Nat) (x1 : Int32) (post : AH → Int32 → Prop) : Prop := (ob h a0 11) ∧ (∀ hv1 : AH, hv1 = hI h a0 0 0 → (wp_X12_isIn hv1 x1 0 1 (fun hv2 iv3 => (iv3 = 0 → (((0 : Int32) = 0 ∨ (0 : Int32) = 1) ∧ post hv2 0)) ∧ (¬ iv3 = 0 → ((ob hv2 a0 11) ∧ (∃ rv4, aP hv2 a0 52 = some rv4 ∧ ((ob hv2 rv4 15) ∧ ((vp_in x1 (aL hv2 rv4)) ∧ ((¬ (aI hv2 rv4 x1.toNatClampNeg) = 0 → (∃ n, wl_X12_restore_27  post n hv2 a0 x1 0)) ∧ ((aI hv2 rv4 x1.toNatClampNeg) = 0 → (((0 : Int32) = 0 ∨ (0 : Int32) = 1) ∧ post hv2 0)))))))))))
set_option maxRecDepth 100000 in
theorem c_X12_restore (G : GG) (h : AH) (a0 : Nat) (x1 : Int32) (post : AH → Int32 → Prop) (hw : wp_X12_restore h a0 x1 post) : MC G yX12_restore cX12_restore 3 (some .boolean) 1 22 h [.ref (G.1 + a0), .int x1] (pI post) := by
  refine MC.of (lv := [(0, .ref (G.1 + a0)), (1, .int x1)]) (by decide) (Nat.le_of_ble_eq_true rfl) rfl fun p l e R s m args below meth c C hr hnm => ?_
  unfold wp_X12_restore at hw
  refine r_aload_n C dX12_restore_0 0 rfl ?_
  refine r_iconst (v := 0) C dX12_restore_1 (by decide) ?_
  refine r_putI C fp_RX12_1_11 hw.1 rfl dX12_restore_2 ?_
  replace hw := hw.2
  refine r_toph fun hv1 ehv1 => ?_
  replace hw := hw hv1 ehv1
  refine r_iload_n C dX12_restore_5 1 rfl ?_
  refine r_iconst (v := 0) C dX12_restore_6 (by decide) ?_
  refine r_iconst (v := 1) C dX12_restore_7 (by decide) ?_
  refine r_callS C (As := [.int x1, .int 0, .int 1]) (rest := []) (c_X12_isIn G hv1 x1 0 1 _ hw) yl_X12_isIn (gm7 (List.mem_of_getElem? (i := 189) rfl) rfl) (gm7 (List.mem_of_getElem? (i := 190) rfl) rfl) (by decide) rfl (Nat.le_of_ble_eq_true rfl) dX12_restore_8 rfl (kI fun hv2 iv3 hw => ?_)
  refine r_if_eq C dX12_restore_11 23 (by decide) (fun hc => ?_) (fun hc => ?_)
  · replace hw := hw.1 hc
    refine r_iconst (v := 0) C dX12_restore_23 (by decide) ?_
    exact r_zret C hr dX12_restore_24 hw.1 hw.2
  · replace hw := hw.2 hc
    refine r_aload_n C dX12_restore_14 0 rfl ?_
    have hob := hw.1
    obtain ⟨rv4, hp, hw⟩ := hw.2
    refine r_getP C fl_RX12_111_11 hob hp (fun _ _ _ => rfl) dX12_restore_15 ?_
    refine r_iload_n C dX12_restore_18 1 rfl ?_
    refine r_zaload C hw.1 hw.2.1 dX12_restore_19 ?_
    replace hw := hw.2.2
    refine r_if_ne C dX12_restore_20 25 (by decide) (fun hc => ?_) (fun hc => ?_)
    · replace hw := hw.1 hc
      refine r_iconst (v := 0) C dX12_restore_25 (by decide) ?_
      refine r_istore_n C dX12_restore_26 [(2, .int 0), (0, .ref (G.1 + a0)), (1, .int x1)] (by decide) rfl ?_
      refine r_sub [1, 2, 0] rfl ?_
      obtain ⟨n, hw⟩ := hw
      exact tl_X12_restore_27 C hr  n _ _ _ _ hw
    · replace hw := hw.2 hc
      refine r_iconst (v := 0) C dX12_restore_23 (by decide) ?_
      exact r_zret C hr dX12_restore_24 hw.1 hw.2
theorem dX12_count_0 : decode cX12_count 0 = .ok (.aload_n 0, 1) := by decide +kernel
theorem dX12_count_1 : decode cX12_count 1 = .ok (.iconst 0, 1) := by decide +kernel
theorem dX12_count_2 : decode cX12_count 2 = .ok (.putfield 1, 3) := by decide +kernel
theorem dX12_count_5 : decode cX12_count 5 = .ok (.iload_n 1, 1) := by decide +kernel
theorem dX12_count_6 : decode cX12_count 6 = .ok (.tableswitch 102 0 7 #[46, 53, 60, 67, 74, 81, 88, 97], 46) := by decide +kernel
theorem dX12_count_52 : decode cX12_count 52 = .ok (.aload_n 0, 1) := by decide +kernel
theorem dX12_count_53 : decode cX12_count 53 = .ok (.getfield 33, 3) := by decide +kernel
theorem dX12_count_56 : decode cX12_count 56 = .ok (.iconst 0, 1) := by decide +kernel
theorem dX12_count_57 : decode cX12_count 57 = .ok (.iaload, 1) := by decide +kernel
theorem dX12_count_58 : decode cX12_count 58 = .ok (.ireturn, 1) := by decide +kernel
theorem dX12_count_59 : decode cX12_count 59 = .ok (.aload_n 0, 1) := by decide +kernel
theorem dX12_count_60 : decode cX12_count 60 = .ok (.getfield 33, 3) := by decide +kernel
theorem dX12_count_63 : decode cX12_count 63 = .ok (.iconst 1, 1) := by decide +kernel
theorem dX12_count_64 : decode cX12_count 64 = .ok (.iaload, 1) := by decide +kernel
theorem dX12_count_65 : decode cX12_count 65 = .ok (.ireturn, 1) := by decide +kernel
theorem dX12_count_66 : decode cX12_count 66 = .ok (.aload_n 0, 1) := by decide +kernel
theorem dX12_count_67 : decode cX12_count 67 = .ok (.getfield 33, 3) := by decide +kernel
theorem dX12_count_70 : decode cX12_count 70 = .ok (.iconst 2, 1) := by decide +kernel
theorem dX12_count_71 : decode cX12_count 71 = .ok (.iaload, 1) := by decide +kernel
theorem dX12_count_72 : decode cX12_count 72 = .ok (.ireturn, 1) := by decide +kernel
theorem dX12_count_73 : decode cX12_count 73 = .ok (.aload_n 0, 1) := by decide +kernel
theorem dX12_count_74 : decode cX12_count 74 = .ok (.getfield 33, 3) := by decide +kernel
theorem dX12_count_77 : decode cX12_count 77 = .ok (.iconst 3, 1) := by decide +kernel
theorem dX12_count_78 : decode cX12_count 78 = .ok (.iaload, 1) := by decide +kernel
theorem dX12_count_79 : decode cX12_count 79 = .ok (.ireturn, 1) := by decide +kernel
theorem dX12_count_80 : decode cX12_count 80 = .ok (.aload_n 0, 1) := by decide +kernel
theorem dX12_count_81 : decode cX12_count 81 = .ok (.getfield 33, 3) := by decide +kernel
theorem dX12_count_84 : decode cX12_count 84 = .ok (.iconst 4, 1) := by decide +kernel
theorem dX12_count_85 : decode cX12_count 85 = .ok (.iaload, 1) := by decide +kernel
theorem dX12_count_86 : decode cX12_count 86 = .ok (.ireturn, 1) := by decide +kernel
theorem dX12_count_87 : decode cX12_count 87 = .ok (.aload_n 0, 1) := by decide +kernel
theorem dX12_count_88 : decode cX12_count 88 = .ok (.getfield 33, 3) := by decide +kernel
theorem dX12_count_91 : decode cX12_count 91 = .ok (.iconst 5, 1) := by decide +kernel
theorem dX12_count_92 : decode cX12_count 92 = .ok (.iaload, 1) := by decide +kernel
theorem dX12_count_93 : decode cX12_count 93 = .ok (.ireturn, 1) := by decide +kernel
theorem dX12_count_94 : decode cX12_count 94 = .ok (.aload_n 0, 1) := by decide +kernel
theorem dX12_count_95 : decode cX12_count 95 = .ok (.getfield 33, 3) := by decide +kernel
theorem dX12_count_98 : decode cX12_count 98 = .ok (.sipush 249, 3) := by decide +kernel
theorem dX12_count_101 : decode cX12_count 101 = .ok (.iaload, 1) := by decide +kernel
theorem dX12_count_102 : decode cX12_count 102 = .ok (.ireturn, 1) := by decide +kernel
theorem dX12_count_103 : decode cX12_count 103 = .ok (.aload_n 0, 1) := by decide +kernel
theorem dX12_count_104 : decode cX12_count 104 = .ok (.getfield 7, 3) := by decide +kernel
theorem dX12_count_107 : decode cX12_count 107 = .ok (.ireturn, 1) := by decide +kernel
theorem dX12_count_108 : decode cX12_count 108 = .ok (.iconst (-1), 1) := by decide +kernel
theorem dX12_count_109 : decode cX12_count 109 = .ok (.ireturn, 1) := by decide +kernel
def wp_X12_count (h : AH) (a0 : Nat) (x1 : Int32) (post : AH → Int32 → Prop) : Prop := (ob h a0 11) ∧ (∀ hv1 : AH, hv1 = hI h a0 0 0 → ((x1 = 0 → ((ob hv1 a0 11) ∧ (∃ rv2, aP hv1 a0 6 = some rv2 ∧ ((ob hv1 rv2 13) ∧ ((vp_in 0 (aL hv1 rv2)) ∧ (post hv1 (aI hv1 rv2 (0 : Int32).toNatClampNeg))))))) ∧ (x1 = 1 → ((ob hv1 a0 11) ∧ (∃ rv3, aP hv1 a0 6 = some rv3 ∧ ((ob hv1 rv3 13) ∧ ((vp_in 1 (aL hv1 rv3)) ∧ (post hv1 (aI hv1 rv3 (1 : Int32).toNatClampNeg))))))) ∧ (x1 = 2 → ((ob hv1 a0 11) ∧ (∃ rv4, aP hv1 a0 6 = some rv4 ∧ ((ob hv1 rv4 13) ∧ ((vp_in 2 (aL hv1 rv4)) ∧ (post hv1 (aI hv1 rv4 (2 : Int32).toNatClampNeg))))))) ∧ (x1 = 3 → ((ob hv1 a0 11) ∧ (∃ rv5, aP hv1 a0 6 = some rv5 ∧ ((ob hv1 rv5 13) ∧ ((vp_in 3 (aL hv1 rv5)) ∧ (post hv1 (aI hv1 rv5 (3 : Int32).toNatClampNeg))))))) ∧ (x1 = 4 → ((ob hv1 a0 11) ∧ (∃ rv6, aP hv1 a0 6 = some rv6 ∧ ((ob hv1 rv6 13) ∧ ((vp_in 4 (aL hv1 rv6)) ∧ (post hv1 (aI hv1 rv6 (4 : Int32).toNatClampNeg))))))) ∧ (x1 = 5 → ((ob hv1 a0 11) ∧ (∃ rv7, aP hv1 a0 6 = some rv7 ∧ ((ob hv1 rv7 13) ∧ ((vp_in 5 (aL hv1 rv7)) ∧ (post hv1 (aI hv1 rv7 (5 : Int32).toNatClampNeg))))))) ∧ (x1 = 6 → ((ob hv1 a0 11) ∧ (∃ rv8, aP hv1 a0 6 = some rv8 ∧ ((ob hv1 rv8 13) ∧ ((vp_in 249 (aL hv1 rv8)) ∧ (post hv1 (aI hv1 rv8 (249 : Int32).toNatClampNeg))))))) ∧ (x1 = 7 → ((ob hv1 a0 11) ∧ (post hv1 (aI hv1 a0 2)))) ∧ ((x1.toInt < 0 ∨ 7 < x1.toInt) → (post hv1 (-1)))))
set_option maxRecDepth 100000 in
theorem c_X12_count (G : GG) (h : AH) (a0 : Nat) (x1 : Int32) (post : AH → Int32 → Prop) (hw : wp_X12_count h a0 x1 post) : MC G yX12_count cX12_count 2 (some .int) 0 0 h [.ref (G.1 + a0), .int x1] (pI post) := by
  refine MC.of (lv := [(0, .ref (G.1 + a0)), (1, .int x1)]) (by decide) (Nat.le_of_ble_eq_true rfl) rfl fun p l e R s m args below meth c C hr hnm => ?_
  unfold wp_X12_count at hw
  refine r_aload_n C dX12_count_0 0 rfl ?_
  refine r_iconst (v := 0) C dX12_count_1 (by decide) ?_
  refine r_putI C fp_RX12_1_11 hw.1 rfl dX12_count_2 ?_
  replace hw := hw.2
  refine r_toph fun hv1 ehv1 => ?_
  replace hw := hw hv1 ehv1
  refine r_iload_n C dX12_count_5 1 rfl ?_
  by_cases hc0 : x1 = 0
  · replace hw := hw.1 hc0
    refine r_tableIn C dX12_count_6 (by rw [hc0]; decide) (by rw [hc0]; decide) (by rw [hc0]; rfl) 52 (by decide) ?_
    refine r_aload_n C dX12_count_52 0 rfl ?_
    have hob := hw.1
    obtain ⟨rv2, hp, hw⟩ := hw.2
    refine r_getP C fl_RX12_33_11 hob hp (fun _ _ _ => rfl) dX12_count_53 ?_
    refine r_iconst (v := 0) C dX12_count_56 (by decide) ?_
    refine r_iaload C hw.1 hw.2.1 dX12_count_57 ?_
    replace hw := hw.2.2
    exact r_iret C hr dX12_count_58 hw
  by_cases hc1 : x1 = 1
  · replace hw := hw.2.1 hc1
    refine r_tableIn C dX12_count_6 (by rw [hc1]; decide) (by rw [hc1]; decide) (by rw [hc1]; rfl) 59 (by decide) ?_
    refine r_aload_n C dX12_count_59 0 rfl ?_
    have hob := hw.1
    obtain ⟨rv3, hp, hw⟩ := hw.2
    refine r_getP C fl_RX12_33_11 hob hp (fun _ _ _ => rfl) dX12_count_60 ?_
    refine r_iconst (v := 1) C dX12_count_63 (by decide) ?_
    refine r_iaload C hw.1 hw.2.1 dX12_count_64 ?_
    replace hw := hw.2.2
    exact r_iret C hr dX12_count_65 hw
  by_cases hc2 : x1 = 2
  · replace hw := hw.2.2.1 hc2
    refine r_tableIn C dX12_count_6 (by rw [hc2]; decide) (by rw [hc2]; decide) (by rw [hc2]; rfl) 66 (by decide) ?_
    refine r_aload_n C dX12_count_66 0 rfl ?_
    have hob := hw.1
    obtain ⟨rv4, hp, hw⟩ := hw.2
    refine r_getP C fl_RX12_33_11 hob hp (fun _ _ _ => rfl) dX12_count_67 ?_
    refine r_iconst (v := 2) C dX12_count_70 (by decide) ?_
    refine r_iaload C hw.1 hw.2.1 dX12_count_71 ?_
    replace hw := hw.2.2
    exact r_iret C hr dX12_count_72 hw
  by_cases hc3 : x1 = 3
  · replace hw := hw.2.2.2.1 hc3
    refine r_tableIn C dX12_count_6 (by rw [hc3]; decide) (by rw [hc3]; decide) (by rw [hc3]; rfl) 73 (by decide) ?_
    refine r_aload_n C dX12_count_73 0 rfl ?_
    have hob := hw.1
    obtain ⟨rv5, hp, hw⟩ := hw.2
    refine r_getP C fl_RX12_33_11 hob hp (fun _ _ _ => rfl) dX12_count_74 ?_
    refine r_iconst (v := 3) C dX12_count_77 (by decide) ?_
    refine r_iaload C hw.1 hw.2.1 dX12_count_78 ?_
    replace hw := hw.2.2
    exact r_iret C hr dX12_count_79 hw
  by_cases hc4 : x1 = 4
  · replace hw := hw.2.2.2.2.1 hc4
    refine r_tableIn C dX12_count_6 (by rw [hc4]; decide) (by rw [hc4]; decide) (by rw [hc4]; rfl) 80 (by decide) ?_
    refine r_aload_n C dX12_count_80 0 rfl ?_
    have hob := hw.1
    obtain ⟨rv6, hp, hw⟩ := hw.2
    refine r_getP C fl_RX12_33_11 hob hp (fun _ _ _ => rfl) dX12_count_81 ?_
    refine r_iconst (v := 4) C dX12_count_84 (by decide) ?_
    refine r_iaload C hw.1 hw.2.1 dX12_count_85 ?_
    replace hw := hw.2.2
    exact r_iret C hr dX12_count_86 hw
  by_cases hc5 : x1 = 5
  · replace hw := hw.2.2.2.2.2.1 hc5
    refine r_tableIn C dX12_count_6 (by rw [hc5]; decide) (by rw [hc5]; decide) (by rw [hc5]; rfl) 87 (by decide) ?_
    refine r_aload_n C dX12_count_87 0 rfl ?_
    have hob := hw.1
    obtain ⟨rv7, hp, hw⟩ := hw.2
    refine r_getP C fl_RX12_33_11 hob hp (fun _ _ _ => rfl) dX12_count_88 ?_
    refine r_iconst (v := 5) C dX12_count_91 (by decide) ?_
    refine r_iaload C hw.1 hw.2.1 dX12_count_92 ?_
    replace hw := hw.2.2
    exact r_iret C hr dX12_count_93 hw
  by_cases hc6 : x1 = 6
  · replace hw := hw.2.2.2.2.2.2.1 hc6
    refine r_tableIn C dX12_count_6 (by rw [hc6]; decide) (by rw [hc6]; decide) (by rw [hc6]; rfl) 94 (by decide) ?_
    refine r_aload_n C dX12_count_94 0 rfl ?_
    have hob := hw.1
    obtain ⟨rv8, hp, hw⟩ := hw.2
    refine r_getP C fl_RX12_33_11 hob hp (fun _ _ _ => rfl) dX12_count_95 ?_
    refine r_sipush (v := 249) C dX12_count_98 (by decide) ?_
    refine r_iaload C hw.1 hw.2.1 dX12_count_101 ?_
    replace hw := hw.2.2
    exact r_iret C hr dX12_count_102 hw
  by_cases hc7 : x1 = 7
  · replace hw := hw.2.2.2.2.2.2.2.1 hc7
    refine r_tableIn C dX12_count_6 (by rw [hc7]; decide) (by rw [hc7]; decide) (by rw [hc7]; rfl) 103 (by decide) ?_
    refine r_aload_n C dX12_count_103 0 rfl ?_
    refine r_getI C fl_RX12_7_11 hw.1 (fun _ _ _ => rfl) dX12_count_104 ?_
    replace hw := hw.2
    exact r_iret C hr dX12_count_107 hw
  have hcd : x1.toInt < 0 ∨ 7 < x1.toInt := sw_out x1 7 (by decide) (fun k hk => match k, hk with | 0, _ => hc0 | 1, _ => hc1 | 2, _ => hc2 | 3, _ => hc3 | 4, _ => hc4 | 5, _ => hc5 | 6, _ => hc6 | 7, _ => hc7 | k + 8, hk => absurd hk (by omega))
  replace hw := hw.2.2.2.2.2.2.2.2 hcd
  refine r_tableOut C dX12_count_6 hcd 108 (by decide) ?_
  refine r_iconst (v := (-1)) C dX12_count_108 (by decide) ?_
  exact r_iret C hr dX12_count_109 hw
