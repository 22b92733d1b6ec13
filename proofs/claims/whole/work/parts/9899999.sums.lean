/-! W together of each set of WANTS -/
def bN (X w : Int) : Prop := X.toNat.testBit w.toNat = true
noncomputable def wsm (s : Int → Int) (n : Nat) (X : Int) : Int := foldI (sumF (bN X) (fun w => s (175 + 5 * w + 4))) n 0 0
def pw (i : Int) : Int := (2 : Int) ^ i.toNat
section SMU
variable {h h1 h2 h' h0 g0 g : AH} {la : Nat} {postV : AH → Prop} {post : AH → Int32 → Prop} {a b c d f i j k v w x y X Y : Int} {s t z : Int → Int}
theorem pw_nat (h0 : 0 ≤ i) : pw i = ((2 ^ i.toNat : Nat) : Int) := by
  unfold pw
  rw [Int.natCast_pow]
  rfl
theorem pw_s (h0 : 0 ≤ i) : pw (i + 1) = 2 * pw i := by
  unfold pw
  rw [show (i + 1).toNat = i.toNat + 1 by omega, Int.pow_succ]
  omega
theorem pw_b (h0 : 0 ≤ i) (h1 : i ≤ 10) : 1 ≤ pw i ∧ pw i ≤ 1024 := by
  rw [pw_nat h0]
  have a := Nat.pow_le_pow_right (n := 2) (by omega) (show 0 ≤ i.toNat by omega)
  have b := Nat.pow_le_pow_right (n := 2) (by omega) (show i.toNat ≤ 10 by omega)
  omega
theorem sh1_n : ∀ i : Nat, i < 12 → (iI 1) <<< Int32.ofNat i = Int32.ofNat (2 ^ i) := by decide +kernel
theorem pw_pos : 0 < pw i := Int.pow_pos (by decide)
theorem sh1_I (h0 : 0 ≤ i) (h1 : i < 12) : iI 1 <<< iI i = iI (pw i) := by
  have p := pw_pos (i := i)
  rw [pw_nat h0] at p ⊢
  rw [iI_nat h0, sh1_n _ (by omega), iI_nat (Int.le_of_lt p)]
  rfl
theorem wsm_s (n : Nat) : wsm s (n + 1) X = iteP (bN X n) (wsm s n X + s (175 + 5 * n + 4)) (wsm s n X) := by
  unfold wsm
  rw [foldI_snoc]
  unfold sumF
  rw [show (0 : Int) + (n : Int) = n by omega]
theorem bN_lt (h0 : 0 ≤ i) (x0 : 0 ≤ X) (x1 : X < pw i) : ¬ bN X i := by
  unfold bN
  rw [pw_nat h0] at x1
  rw [Nat.testBit_lt_two_pow (by omega)]
  decide
theorem bN_hi (h0 : 0 ≤ i) (x0 : pw i ≤ X) (x1 : X < 2 * pw i) : bN X i := by
  unfold bN
  have e := pw_nat h0
  rw [show X.toNat = 2 ^ i.toNat + (X - pw i).toNat by omega, Nat.testBit_two_pow_add_eq, Nat.testBit_lt_two_pow (by omega)]
  rfl
theorem bN_lo (h0 : 0 ≤ i) (x0 : pw i ≤ X) (j0 : 0 ≤ j) (j1 : j < i) : bN X j ↔ bN (X - pw i) j := by
  unfold bN
  have p := pw_pos (i := i)
  have e := pw_nat h0
  rw [show X.toNat = 2 ^ i.toNat + (X - pw i).toNat by omega, Nat.testBit_two_pow_add_gt (by omega)]
theorem wsm_c {P : Int → Prop} (n : Nat) (hP : ∀ w : Int, 0 ≤ w → w < n → (bN X w ↔ P w)) : wsm s n X = foldI (sumF P (fun w => s (175 + 5 * w + 4))) n 0 0 := by
  unfold wsm
  refine foldI_c _ _ _ fun w b w1 w2 => ?_
  unfold sumF
  exact ite_c (hP w w1 (by omega))
theorem wsm_lt (h0 : 0 ≤ i) (x0 : 0 ≤ X) (x1 : X < pw i) : wsm s (i + 1).toNat X = wsm s i.toNat X := by
  rw [show (i + 1).toNat = i.toNat + 1 by omega, wsm_s, ite_f]
  rw [show ((i.toNat : Nat) : Int) = i by omega]
  exact bN_lt h0 x0 x1
theorem wsm_hi (h0 : 0 ≤ i) (x0 : pw i ≤ X) (x1 : X < 2 * pw i) : wsm s (i + 1).toNat X = wsm s i.toNat (X - pw i) + s (175 + 5 * i + 4) := by
  rw [show (i + 1).toNat = i.toNat + 1 by omega, wsm_s, ite_t, show ((i.toNat : Nat) : Int) = i by omega]
  · congr 1
    exact wsm_c (P := bN (X - pw i)) _ fun w w0 w1 => bN_lo h0 x0 w0 (by omega)
  · rw [show ((i.toNat : Nat) : Int) = i by omega]
    exact bN_hi h0 x0 x1
theorem sumF_e {P : Int → Prop} {f : Int → Int} : sumF P f i x = iteP (P i) (x + f i) x := rfl
theorem sm_bd {P : Int → Prop} (hw : ∀ w, 0 ≤ w → w < b → 0 ≤ s (175 + 5 * w + 4) ∧ s (175 + 5 * w + 4) ≤ 99) : ∀ n : Nat, (n : Int) ≤ b → 0 ≤ foldI (sumF P (fun w => s (175 + 5 * w + 4))) n 0 0 ∧ foldI (sumF P (fun w => s (175 + 5 * w + 4))) n 0 0 ≤ 99 * n := by
  intro n
  induction n with
  | zero => intro _; exact ⟨Int.le_refl _, Int.le_refl _⟩
  | succ n ih =>
    intro hn
    have := ih (by omega)
    have q := hw n (by omega) (by omega)
    rw [foldI_snoc, sumF_e, show (0 : Int) + (n : Int) = n by omega]
    by_cases c : P n
    · rw [ite_t c]; omega
    · rw [ite_f c]; omega
theorem sm_le {P Q : Int → Prop} (hw : ∀ w, 0 ≤ w → w < b → 0 ≤ s (175 + 5 * w + 4) ∧ s (175 + 5 * w + 4) ≤ 99) (hPQ : ∀ w, 0 ≤ w → w < b → P w → Q w) : ∀ n : Nat, (n : Int) ≤ b → foldI (sumF P (fun w => s (175 + 5 * w + 4))) n 0 0 ≤ foldI (sumF Q (fun w => s (175 + 5 * w + 4))) n 0 0 := by
  intro n
  induction n with
  | zero => intro _; exact Int.le_refl _
  | succ n ih =>
    intro hn
    have := ih (by omega)
    have q := hw n (by omega) (by omega)
    have pq := hPQ n (by omega) (by omega)
    rw [foldI_snoc, foldI_snoc, sumF_e, sumF_e, show (0 : Int) + (n : Int) = n by omega]
    by_cases c : P n
    · rw [ite_t c, ite_t (pq c)]; omega
    · rw [ite_f c]
      by_cases c2 : Q n
      · rw [ite_t c2]; omega
      · rw [ite_f c2]; omega
theorem c_sumUp (S : CSh h) (H : LB h la) (L : LR h la s) (hl : la = 5 ∨ la = 32) (n5 : 0 ≤ s 5 ∧ s 5 ≤ 10) (hw : ∀ w, 0 ≤ w → w < s 5 → 0 ≤ s (175 + 5 * w + 4) ∧ s (175 + 5 * w + 4) ≤ 99) (K : ∀ h', Fr [77] [] [] h h' → (∀ X, 0 ≤ X → X < pw (s 5) → rd h' 77 X = wsm s (s 5).toNat X) → postV h') : wp_X10_sumUp h (la + 16) 77 postV := by
  have e24 : nI 1024 = iI 1024 := rfl
  unfold wp_X10_sumUp
  simp (disch := omega) only [CSh.o0 S, CSh.o1 S, CSh.o2 S, CSh.o3 S, CSh.o26 S, CSh.o27 S, CSh.o29 S, CSh.o30 S, CSh.o31 S, CSh.o56 S, CSh.o57 S, CSh.o58 S, CSh.o62 S, CSh.o66 S, CSh.o70 S, CSh.o74 S, CSh.o75 S, CSh.o77 S, CSh.o79 S, CSh.o80 S, CSh.o81 S, CSh.o82 S, CSh.o83 S, CSh.o84 S, CSh.o85 S, CSh.o86 S, CSh.o87 S, CSh.o88 S, CSh.o53 S, CSh.o54 S, CSh.o55 S, CSh.o59 S, CSh.o60 S, CSh.o61 S, CSh.o63 S, CSh.o64 S, CSh.o65 S, CSh.o67 S, CSh.o68 S, CSh.o69 S, CSh.o71 S, CSh.o72 S, CSh.o73 S, CSh.o89 S, CSh.o90 S, CSh.o91 S, CSh.l1 S, CSh.l3 S, CSh.l27 S, CSh.l29 S, CSh.l30 S, CSh.l56 S, CSh.l57 S, CSh.l58 S, CSh.l75 S, CSh.l77 S, CSh.l79 S, CSh.l81 S, CSh.l82 S, CSh.l83 S, CSh.l84 S, CSh.l85 S, CSh.l86 S, CSh.l87 S, CSh.l88 S, CSh.l54 S, CSh.l55 S, CSh.l60 S, CSh.l61 S, CSh.l64 S, CSh.l65 S, CSh.l68 S, CSh.l69 S, CSh.l72 S, CSh.l73 S, CSh.l90 S, CSh.l91 S, CSh.p0_0 S, CSh.p0_3 S, CSh.p0_4 S, CSh.p0_5 S, CSh.p0_6 S, CSh.p0_7 S, CSh.p0_8 S, CSh.p0_9 S, CSh.p0_10 S, CSh.p0_14 S, CSh.p2_0 S, CSh.p26_0 S, CSh.p26_13 S, CSh.p26_14 S, CSh.p31_1 S, CSh.p31_3 S, CSh.p31_4 S, CSh.p62_0 S, CSh.p66_0 S, CSh.p70_0 S, CSh.p74_0 S, CSh.p74_1 S, CSh.p74_6 S, CSh.p74_7 S, CSh.p74_10 S, CSh.p80_1 S, CSh.p80_2 S, CSh.p80_3 S, CSh.p80_4 S, CSh.p80_5 S, CSh.p80_6 S, CSh.p80_7 S, CSh.p80_8 S, CSh.p53_1 S, CSh.p53_2 S, CSh.p59_1 S, CSh.p59_2 S, CSh.p63_1 S, CSh.p63_2 S, CSh.p67_1 S, CSh.p67_2 S, CSh.p71_1 S, CSh.p71_2 S, CSh.p89_1 S, CSh.p89_2 S, -Int.reduceToNat, -Int32.reduceToNatClampNeg, il0, il1, il2, il3, il4, il5, il6, il7, il8, il9, il10, il11, il12, il13, il14, il15, il16, il17, il18, il19, il20, il21, il22, il23, il24, il25, il26, il27, il28, il29, il30, il31, il32, il35, il36, il38, il40, il42, il43, il44, il45, il46, il47, il48, il49, il50, il51, il52, il57, il59, il60, il63, il64, il75, il80, il95, il96, il97, il98, il99, il100, il120, il122, il123, il127, il128, il135, il167, il175, il225, il249, il250, il255, il256, il360, il370, il384, il600, il700, il740, il900, il940, il1024, il1600, il4800, il64000, il125000, il262143, il1000000000, iI_toInt, iI_add, iI_sub, iI_mul, iI_neg, iI_lt, iI_le, iI_eq, iI_n, iI_in, iI_div, iI_mod, iI_shm, iI_and1, iI_and7, iI_and63, iI_shr3, iI_shr6, rd_I, ob, Option.some.injEq, exists_eq_left', exists_eq_left, true_and, and_true, fqI, fqJ, eq_self, true_or, or_true, bP_0, bP_0i, npP, bP_1i, bP_b, not_true_eq_false, not_false_eq_true, false_implies, true_implies, implies_true, Classical.not_not, and_self]
  intro g1 w1
  obtain ⟨f1, r1⟩ := wI (i := 0) (by omega) (by omega) (by omega) w1
  refine lf_for (W := fun k (b : AH) i => wl_X10_sumUp_6 postV k b (la + 16) 77 (iI i)) (lo := 0) (hi := s 5) (fun i b => Fr [77] [] [] h b ∧ ∀ X, 0 ≤ X → X < pw i → rd b 77 X = wsm s i.toNat X) n5.1 (fun k b i i0 i1 J nx => ?_) (fun k b J => ?_) g1 ⟨f1, fun X x0 x1 => ?_⟩
  · obtain ⟨Fb, J⟩ := J
    have Sb := S.gr Fb.gr
    have Hb : LB b la := H.gr Fb.gr (by omega)
    have Lb : LR b la s := L.fr Fb (fun j hj => by simp; omega) (fun j hj => by simp)
    have w0 := Lb.w0
    have pb := pw_b i0 (show i ≤ 10 by omega)
    have pb' := pw_b (i := i + 1) (by omega) (show i + 1 ≤ 10 by omega)
    have ps := pw_s i0
    have we := Lb.ww i i0 i1
    have wb := hw i i0 i1
    show wb_X10_sumUp_6 (wl_X10_sumUp_6 postV k) b (la + 16) 77 (iI i) postV
    unfold wb_X10_sumUp_6
    simp (disch := omega) only [LB.o0 Hb, LB.p2 Hb, LB.o1 Hb, LB.l1 Hb, LB.p3 Hb, LB.o2 Hb, LB.l2 Hb, LB.p4 Hb, LB.o3 Hb, LB.l3 Hb, LB.p6 Hb, LB.o4 Hb, LB.l4 Hb, LB.p7 Hb, LB.o5 Hb, LB.l5 Hb, LB.p8 Hb, LB.o6 Hb, LB.l6 Hb, LB.p9 Hb, LB.o7 Hb, LB.l7 Hb, LB.p10 Hb, LB.o8 Hb, LB.l8 Hb, LB.p12 Hb, LB.o9 Hb, LB.l9 Hb, LB.p14 Hb, LB.o10 Hb, LB.p15 Hb, LB.o16 Hb, LB.q10_1 Hb, LB.o11 Hb, LB.l11 Hb, LB.q10_2 Hb, LB.o12 Hb, LB.l12 Hb, LB.q10_3 Hb, LB.o13 Hb, LB.l13 Hb, LB.q10_4 Hb, LB.o14 Hb, LB.l14 Hb, LB.q10_5 Hb, LB.o15 Hb, LB.l15 Hb, LB.q16_1 Hb, LB.o17 Hb, LB.l17 Hb, LB.q16_2 Hb, LB.o18 Hb, LB.l18 Hb, LB.q16_3 Hb, LB.o19 Hb, LB.l19 Hb, LB.q16_4 Hb, LB.o20 Hb, LB.l20 Hb, fd0, fd1, fd2, fd3, fd4, fd5, fd6, fd7, fd8, fd9, fd10, fd11, fd12, fd13, fd14, fd15, fd16, fd17, fd18, fd19, fd20, fd21, fd22, fd23, fd24, fd25, fd26, fd27, fd28, fd29, fd30, fd31, fd32, fd33, fd34, fd35, fd36, fd37, fd38, fd39, fd40, fd41, fd42, fd43, fd44, fd45, fd46, fd47, fd48, fd49, fd50, fd51, fd52, w0, -Int.reduceToNat, -Int32.reduceToNatClampNeg, il0, il1, il2, il3, il4, il5, il6, il7, il8, il9, il10, il11, il12, il13, il14, il15, il16, il17, il18, il19, il20, il21, il22, il23, il24, il25, il26, il27, il28, il29, il30, il31, il32, il35, il36, il38, il40, il42, il43, il44, il45, il46, il47, il48, il49, il50, il51, il52, il57, il59, il60, il63, il64, il75, il80, il95, il96, il97, il98, il99, il100, il120, il122, il123, il127, il128, il135, il167, il175, il225, il249, il250, il255, il256, il360, il370, il384, il600, il700, il740, il900, il940, il1024, il1600, il4800, il64000, il125000, il262143, il1000000000, iI_toInt, iI_add, iI_sub, iI_mul, iI_neg, iI_lt, iI_le, iI_eq, iI_n, iI_in, iI_div, iI_mod, iI_shm, iI_and1, iI_and7, iI_and63, iI_shr3, iI_shr6, rd_I, ob, Option.some.injEq, exists_eq_left', exists_eq_left, true_and, and_true, fqI, fqJ, eq_self, true_or, or_true, bP_0, bP_0i, npP, bP_1i, bP_b, not_true_eq_false, not_false_eq_true, false_implies, true_implies, implies_true, Classical.not_not, and_self, sh1_I i0 (show i < 12 by omega)]
    refine ⟨fun u => by omega, fun _ => ?_⟩
    refine lf_for (W := fun k' (b : AH) x => wl_X10_sumUp_21 (wl_X10_sumUp_6 postV k) postV k' b (la + 16) 77 (iI i) (iI (pw i)) (iI x)) (lo := pw i) (hi := 2 * pw i) (fun x b => Fr [77] [] [] h b ∧ (∀ X, 0 ≤ X → X < pw i → rd b 77 X = wsm s i.toNat X) ∧ ∀ X, pw i ≤ X → X < x → rd b 77 X = wsm s (i + 1).toNat X) (by omega) (fun k' g x x0 x1 Q nx' => ?_) (fun k' g Q => ?_) b ⟨Fb, J, fun X x0 x1 => by omega⟩
    · obtain ⟨Fg, Q1, Q2⟩ := Q
      have Sg := S.gr Fg.gr
      have Hg : LB g la := H.gr Fg.gr (by omega)
      have Lg : LR g la s := L.fr Fg (fun j hj => by simp; omega) (fun j hj => by simp)
      have wg := Lg.ww i i0 i1
      have q1 := Q1 (x - pw i) (by omega) (by omega)
      have sb := sm_bd (P := bN (x - pw i)) hw i.toNat (by omega)
      have sb : 0 ≤ wsm s i.toNat (x - pw i) ∧ wsm s i.toNat (x - pw i) ≤ 99 * i.toNat := sb
      have hx := wsm_hi (s := s) (X := x) i0 (by omega) (by omega)
      show wb_X10_sumUp_21 (wl_X10_sumUp_6 postV k) (wl_X10_sumUp_21 (wl_X10_sumUp_6 postV k) postV k') g (la + 16) 77 (iI i) (iI (pw i)) (iI x) postV
      have l77 := Sg.l77
      have k77 := Sg.o77.1
      have n77 := Sg.o77.2
      unfold wb_X10_sumUp_21
      simp (disch := omega) only [CSh.o0 Sg, CSh.o1 Sg, CSh.o2 Sg, CSh.o3 Sg, CSh.o26 Sg, CSh.o27 Sg, CSh.o29 Sg, CSh.o30 Sg, CSh.o31 Sg, CSh.o56 Sg, CSh.o57 Sg, CSh.o58 Sg, CSh.o62 Sg, CSh.o66 Sg, CSh.o70 Sg, CSh.o74 Sg, CSh.o75 Sg, CSh.o77 Sg, CSh.o79 Sg, CSh.o80 Sg, CSh.o81 Sg, CSh.o82 Sg, CSh.o83 Sg, CSh.o84 Sg, CSh.o85 Sg, CSh.o86 Sg, CSh.o87 Sg, CSh.o88 Sg, CSh.o53 Sg, CSh.o54 Sg, CSh.o55 Sg, CSh.o59 Sg, CSh.o60 Sg, CSh.o61 Sg, CSh.o63 Sg, CSh.o64 Sg, CSh.o65 Sg, CSh.o67 Sg, CSh.o68 Sg, CSh.o69 Sg, CSh.o71 Sg, CSh.o72 Sg, CSh.o73 Sg, CSh.o89 Sg, CSh.o90 Sg, CSh.o91 Sg, CSh.l1 Sg, CSh.l3 Sg, CSh.l27 Sg, CSh.l29 Sg, CSh.l30 Sg, CSh.l56 Sg, CSh.l57 Sg, CSh.l58 Sg, CSh.l75 Sg, CSh.l77 Sg, CSh.l79 Sg, CSh.l81 Sg, CSh.l82 Sg, CSh.l83 Sg, CSh.l84 Sg, CSh.l85 Sg, CSh.l86 Sg, CSh.l87 Sg, CSh.l88 Sg, CSh.l54 Sg, CSh.l55 Sg, CSh.l60 Sg, CSh.l61 Sg, CSh.l64 Sg, CSh.l65 Sg, CSh.l68 Sg, CSh.l69 Sg, CSh.l72 Sg, CSh.l73 Sg, CSh.l90 Sg, CSh.l91 Sg, CSh.p0_0 Sg, CSh.p0_3 Sg, CSh.p0_4 Sg, CSh.p0_5 Sg, CSh.p0_6 Sg, CSh.p0_7 Sg, CSh.p0_8 Sg, CSh.p0_9 Sg, CSh.p0_10 Sg, CSh.p0_14 Sg, CSh.p2_0 Sg, CSh.p26_0 Sg, CSh.p26_13 Sg, CSh.p26_14 Sg, CSh.p31_1 Sg, CSh.p31_3 Sg, CSh.p31_4 Sg, CSh.p62_0 Sg, CSh.p66_0 Sg, CSh.p70_0 Sg, CSh.p74_0 Sg, CSh.p74_1 Sg, CSh.p74_6 Sg, CSh.p74_7 Sg, CSh.p74_10 Sg, CSh.p80_1 Sg, CSh.p80_2 Sg, CSh.p80_3 Sg, CSh.p80_4 Sg, CSh.p80_5 Sg, CSh.p80_6 Sg, CSh.p80_7 Sg, CSh.p80_8 Sg, CSh.p53_1 Sg, CSh.p53_2 Sg, CSh.p59_1 Sg, CSh.p59_2 Sg, CSh.p63_1 Sg, CSh.p63_2 Sg, CSh.p67_1 Sg, CSh.p67_2 Sg, CSh.p71_1 Sg, CSh.p71_2 Sg, CSh.p89_1 Sg, CSh.p89_2 Sg, LB.o0 Hg, LB.p2 Hg, LB.o1 Hg, LB.l1 Hg, LB.p3 Hg, LB.o2 Hg, LB.l2 Hg, LB.p4 Hg, LB.o3 Hg, LB.l3 Hg, LB.p6 Hg, LB.o4 Hg, LB.l4 Hg, LB.p7 Hg, LB.o5 Hg, LB.l5 Hg, LB.p8 Hg, LB.o6 Hg, LB.l6 Hg, LB.p9 Hg, LB.o7 Hg, LB.l7 Hg, LB.p10 Hg, LB.o8 Hg, LB.l8 Hg, LB.p12 Hg, LB.o9 Hg, LB.l9 Hg, LB.p14 Hg, LB.o10 Hg, LB.p15 Hg, LB.o16 Hg, LB.q10_1 Hg, LB.o11 Hg, LB.l11 Hg, LB.q10_2 Hg, LB.o12 Hg, LB.l12 Hg, LB.q10_3 Hg, LB.o13 Hg, LB.l13 Hg, LB.q10_4 Hg, LB.o14 Hg, LB.l14 Hg, LB.q10_5 Hg, LB.o15 Hg, LB.l15 Hg, LB.q16_1 Hg, LB.o17 Hg, LB.l17 Hg, LB.q16_2 Hg, LB.o18 Hg, LB.l18 Hg, LB.q16_3 Hg, LB.o19 Hg, LB.l19 Hg, LB.q16_4 Hg, LB.o20 Hg, LB.l20 Hg, e24, k77, n77, wg, q1, -Int.reduceToNat, -Int32.reduceToNatClampNeg, il0, il1, il2, il3, il4, il5, il6, il7, il8, il9, il10, il11, il12, il13, il14, il15, il16, il17, il18, il19, il20, il21, il22, il23, il24, il25, il26, il27, il28, il29, il30, il31, il32, il35, il36, il38, il40, il42, il43, il44, il45, il46, il47, il48, il49, il50, il51, il52, il57, il59, il60, il63, il64, il75, il80, il95, il96, il97, il98, il99, il100, il120, il122, il123, il127, il128, il135, il167, il175, il225, il249, il250, il255, il256, il360, il370, il384, il600, il700, il740, il900, il940, il1024, il1600, il4800, il64000, il125000, il262143, il1000000000, iI_toInt, iI_add, iI_sub, iI_mul, iI_neg, iI_lt, iI_le, iI_eq, iI_n, iI_in, iI_div, iI_mod, iI_shm, iI_and1, iI_and7, iI_and63, iI_shr3, iI_shr6, rd_I, ob, Option.some.injEq, exists_eq_left', exists_eq_left, true_and, and_true, fqI, fqJ, eq_self, true_or, or_true, bP_0, bP_0i, npP, bP_1i, bP_b, not_true_eq_false, not_false_eq_true, false_implies, true_implies, implies_true, Classical.not_not, and_self]
      refine ⟨fun u => by omega, fun _ => ⟨fun u => by omega, fun _ => ?_⟩⟩
      intro g2 w2
      obtain ⟨f2, r2⟩ := wI (i := x) (by omega) (by omega) (by omega) w2
      refine nx' g2 ⟨Fg.trans f2, fun X x0' x1' => by rw [r2, updT_n (by omega)]; exact Q1 X x0' x1', fun X x0' x1' => ?_⟩
      rw [r2]
      by_cases cx : X = x
      · rw [cx, updT_s, hx]
      · rw [updT_n cx]; exact Q2 X x0' (by omega)
    · obtain ⟨Fg, Q1, Q2⟩ := Q
      show wb_X10_sumUp_21 (wl_X10_sumUp_6 postV k) (wl_X10_sumUp_21 (wl_X10_sumUp_6 postV k) postV k') g (la + 16) 77 (iI i) (iI (pw i)) (iI (2 * pw i)) postV
      unfold wb_X10_sumUp_21 wb_X10_sumUp_59
      simp (disch := omega) only [-Int.reduceToNat, -Int32.reduceToNatClampNeg, il0, il1, il2, il3, il4, il5, il6, il7, il8, il9, il10, il11, il12, il13, il14, il15, il16, il17, il18, il19, il20, il21, il22, il23, il24, il25, il26, il27, il28, il29, il30, il31, il32, il35, il36, il38, il40, il42, il43, il44, il45, il46, il47, il48, il49, il50, il51, il52, il57, il59, il60, il63, il64, il75, il80, il95, il96, il97, il98, il99, il100, il120, il122, il123, il127, il128, il135, il167, il175, il225, il249, il250, il255, il256, il360, il370, il384, il600, il700, il740, il900, il940, il1024, il1600, il4800, il64000, il125000, il262143, il1000000000, iI_toInt, iI_add, iI_sub, iI_mul, iI_neg, iI_lt, iI_le, iI_eq, iI_n, iI_in, iI_div, iI_mod, iI_shm, iI_and1, iI_and7, iI_and63, iI_shr3, iI_shr6, rd_I, ob, Option.some.injEq, exists_eq_left', exists_eq_left, true_and, and_true, fqI, fqJ, eq_self, true_or, or_true, bP_0, bP_0i, npP, bP_1i, bP_b, not_true_eq_false, not_false_eq_true, false_implies, true_implies, implies_true, Classical.not_not, and_self]
      refine ⟨fun _ => nx g ⟨Fg, fun X x0 x1 => ?_⟩, fun u => by omega⟩
      by_cases cx : X < pw i
      · rw [wsm_lt i0 x0 cx]; exact Q1 X x0 cx
      · exact Q2 X (by omega) (by omega)
  · obtain ⟨Fb, J⟩ := J
    have Hb : LB b la := H.gr Fb.gr (by omega)
    have Lb : LR b la s := L.fr Fb (fun j hj => by simp; omega) (fun j hj => by simp)
    have w0 := Lb.w0
    show wb_X10_sumUp_6 (wl_X10_sumUp_6 postV k) b (la + 16) 77 (iI (s 5)) postV
    unfold wb_X10_sumUp_6
    simp (disch := omega) only [LB.o0 Hb, LB.p2 Hb, LB.o1 Hb, LB.l1 Hb, LB.p3 Hb, LB.o2 Hb, LB.l2 Hb, LB.p4 Hb, LB.o3 Hb, LB.l3 Hb, LB.p6 Hb, LB.o4 Hb, LB.l4 Hb, LB.p7 Hb, LB.o5 Hb, LB.l5 Hb, LB.p8 Hb, LB.o6 Hb, LB.l6 Hb, LB.p9 Hb, LB.o7 Hb, LB.l7 Hb, LB.p10 Hb, LB.o8 Hb, LB.l8 Hb, LB.p12 Hb, LB.o9 Hb, LB.l9 Hb, LB.p14 Hb, LB.o10 Hb, LB.p15 Hb, LB.o16 Hb, LB.q10_1 Hb, LB.o11 Hb, LB.l11 Hb, LB.q10_2 Hb, LB.o12 Hb, LB.l12 Hb, LB.q10_3 Hb, LB.o13 Hb, LB.l13 Hb, LB.q10_4 Hb, LB.o14 Hb, LB.l14 Hb, LB.q10_5 Hb, LB.o15 Hb, LB.l15 Hb, LB.q16_1 Hb, LB.o17 Hb, LB.l17 Hb, LB.q16_2 Hb, LB.o18 Hb, LB.l18 Hb, LB.q16_3 Hb, LB.o19 Hb, LB.l19 Hb, LB.q16_4 Hb, LB.o20 Hb, LB.l20 Hb, fd0, fd1, fd2, fd3, fd4, fd5, fd6, fd7, fd8, fd9, fd10, fd11, fd12, fd13, fd14, fd15, fd16, fd17, fd18, fd19, fd20, fd21, fd22, fd23, fd24, fd25, fd26, fd27, fd28, fd29, fd30, fd31, fd32, fd33, fd34, fd35, fd36, fd37, fd38, fd39, fd40, fd41, fd42, fd43, fd44, fd45, fd46, fd47, fd48, fd49, fd50, fd51, fd52, w0, -Int.reduceToNat, -Int32.reduceToNatClampNeg, il0, il1, il2, il3, il4, il5, il6, il7, il8, il9, il10, il11, il12, il13, il14, il15, il16, il17, il18, il19, il20, il21, il22, il23, il24, il25, il26, il27, il28, il29, il30, il31, il32, il35, il36, il38, il40, il42, il43, il44, il45, il46, il47, il48, il49, il50, il51, il52, il57, il59, il60, il63, il64, il75, il80, il95, il96, il97, il98, il99, il100, il120, il122, il123, il127, il128, il135, il167, il175, il225, il249, il250, il255, il256, il360, il370, il384, il600, il700, il740, il900, il940, il1024, il1600, il4800, il64000, il125000, il262143, il1000000000, iI_toInt, iI_add, iI_sub, iI_mul, iI_neg, iI_lt, iI_le, iI_eq, iI_n, iI_in, iI_div, iI_mod, iI_shm, iI_and1, iI_and7, iI_and63, iI_shr3, iI_shr6, rd_I, ob, Option.some.injEq, exists_eq_left', exists_eq_left, true_and, and_true, fqI, fqJ, eq_self, true_or, or_true, bP_0, bP_0i, npP, bP_1i, bP_b, not_true_eq_false, not_false_eq_true, false_implies, true_implies, implies_true, Classical.not_not, and_self]
    exact ⟨fun _ => K b Fb J, fun u => by omega⟩
  · have e : pw 0 = 1 := rfl
    rw [e] at x1
    rw [show X = 0 by omega, r1, updT_s]
    rfl
end SMU
