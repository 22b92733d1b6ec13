/-! lagoon() in the class -/
section CLG
variable {h h1 h2 h' h0 g : AH} {i0 la fr qa ac : Nat} {postV : AH → Prop} {post : AH → Int32 → Prop} {a b c d r x y n m p q e k i j v w lo hi td sp : Int} {T s : Int → Int} {l l' : List Int} {N : Int → List Int} {R : RT}
theorem ls_ok : ∀ (dd : Nat) (s : Int → Int) (N : Int → List Int) (td p c : Int), BA s td → NmK s N → 0 ≤ p ∧ p ≤ n → 0 ≤ m → (lsS T n m dd s N td p c).1 = 0 → BA (lsS T n m dd s N td p c).2.2.1 (lsS T n m dd s N td p c).2.2.2.2.1 ∧ NmK (lsS T n m dd s N td p c).2.2.1 (lsS T n m dd s N td p c).2.2.2.1 := by
  intro dd
  induction dd with
  | zero => intro s N td p c B M hp hm u; exact absurd u (by show ¬ (1 : Int) = 0; omega)
  | succ dd ih =>
    intro s N td p c B M hp hm
    have tb := tk_bd (T := T) hp hm
    have L := ln_ok (T := T) (w := wdI T n m p) (a := tkA T n m p) (p := tkE T n m p) B M ⟨by omega, tb.2.1.2⟩ hm
    rw [lsS]
    by_cases k4 : tkK T n m p = 4
    · rw [ite_t k4]
      by_cases k5 : n ≤ m
      · rw [ite_t k5]; exact fun _ => ⟨B, M⟩
      · rw [ite_f k5]; exact fun u => absurd u (by show ¬ (1 : Int) = 0; omega)
    · rw [ite_f k4]
      by_cases k5 : (lnS T n m (wdI T n m p) s N td (tkA T n m p) (tkE T n m p)).1 = 0
      · rw [ite_t k5]
        obtain ⟨L1, L2, L3, L4⟩ := L k5
        exact ih _ _ _ _ _ L1 L2 ⟨by omega, L4⟩ hm
      · rw [ite_f k5]; exact fun u => absurd u k5
/-- the town as told -/
theorem c_settle (H : LB h la) (L : LR h la s) (B : BA s td) (hT : TB h 53) (st : ∀ r, 0 ≤ r → r < s 2 → rd h (la + 8) r = 8 * s (225 + 3 * r + 1) + s (225 + 3 * r)) (hl : la = 5 ∨ la = 32) (K : ∀ g h', g = hP h 53 0 la → Fr [54] [55] [] g h' → TR h' 53 la s (tS s) (zC s) → postV h') : wp_X8_settle h 53 la postV := by
  obtain ⟨bb0, bb1, bb2, bb3, bb4, bb5⟩ := B.bds
  have g53 : Gr [] [] [(53, 0)] h (hP h 53 0 la) := gr_hP1 (k := 0) (by decide)
  unfold wp_X8_settle
  refine ⟨hT.o0, fun g eg => ?_⟩
  subst eg
  have H1 : LB (hP h 53 0 la) la := H.gr g53 (by omega)
  have L1 : LR (hP h 53 0 la) la s := L.grw H g53 (fun j _ => List.not_mem_nil) (fun j _ => List.not_mem_nil)
  have T1 : TB (hP h 53 0 la) 53 := hT.gr g53 (by intro k hk; unfold DynP; simp [hk])
  have p1 : aP (hP h 53 0 la) 53 0 = some la := by rw [aP_hP, if_pos rfl]
  have e8 : rd (hP h 53 0 la) (la + 8) = rd h (la + 8) := rfl
  have K := K (hP h 53 0 la)
  generalize hP h 53 0 la = g0 at K H1 L1 T1 p1 e8
  rw [show (0 : Int32) = iI 0 from rfl]
  have c5 := L1.c5
  refine lf_for (W := fun k (g : AH) i => wl_X8_settle_7 postV k g 53 la (iI i)) (lo := 0) (hi := s 2) (fun i g => Fr [54] [55] [] g0 g ∧ (∀ r, 0 ≤ r → r < i → rd g 54 r = enc (tS s) r) ∧ ∀ r, 0 ≤ r → r < i → ∀ x y, 0 ≤ x → x < 8 → 0 ≤ y → y < 8 → (zb (aJ g 55 r.toNat) (8 * y + x) ↔ onT (tS s) (zC s) r x y)) (by omega) (fun k g i i0 i1 I nx => ?_) (fun k g I => ?_) g0 ⟨(Fr.refl g0).mono (by simp) (by simp) (by simp), fun r r0 r1 => by omega, fun r r0 r1 => by omega⟩
  · obtain ⟨F, I1, I2⟩ := I
    show wb_X8_settle_7 (wl_X8_settle_7 postV k) g 53 la (iI i) postV
    have Hg : LB g la := H1.gr F.gr (by omega)
    have Lg : LR g la s := L1.fr F (fun j hj => by simp; omega) (fun j hj => by simp; omega)
    have Tg : TB g 53 := T1.gr F.gr (by intro k hk; unfold DynP; simp [hk])
    have pg : aP g 53 0 = some la := by rw [F.aPe]; exact p1
    have c5 := Lg.c5
    have e8g : rd g (la + 8) i = enc (tS s) i := by
      rw [F.row (by simp; omega), e8, st i i0 i1]
      unfold enc
      rw [tS_i (by omega) (by omega), tS_i (by omega) (by omega), tS_i (by omega) (by omega), show (225 : Int) + (3 * i + 2) = 225 + 3 * i + 2 by omega, B.t0 i i0 i1, show (225 : Int) + (3 * i + 1) = 225 + 3 * i + 1 by omega]
      omega
    have vt := B.vt i i0 i1
    have en := enc_nums vt.1
    have z1 := Z1.of (EZ.c s) B.gs.2.1 i0 i1 bb2.2
    have w2 := wsp_enc (EZ.c s) i0 (by omega) vt.1
    unfold wb_X8_settle_7
    simp (disch := omega) only [LB.o0 Hg, LB.p2 Hg, LB.o1 Hg, LB.l1 Hg, LB.p3 Hg, LB.o2 Hg, LB.l2 Hg, LB.p4 Hg, LB.o3 Hg, LB.l3 Hg, LB.p6 Hg, LB.o4 Hg, LB.l4 Hg, LB.p7 Hg, LB.o5 Hg, LB.l5 Hg, LB.p8 Hg, LB.o6 Hg, LB.l6 Hg, LB.p9 Hg, LB.o7 Hg, LB.l7 Hg, LB.p10 Hg, LB.o8 Hg, LB.l8 Hg, LB.p12 Hg, LB.o9 Hg, LB.l9 Hg, LB.p14 Hg, LB.o10 Hg, LB.p15 Hg, LB.o16 Hg, LB.q10_1 Hg, LB.o11 Hg, LB.l11 Hg, LB.q10_2 Hg, LB.o12 Hg, LB.l12 Hg, LB.q10_3 Hg, LB.o13 Hg, LB.l13 Hg, LB.q10_4 Hg, LB.o14 Hg, LB.l14 Hg, LB.q10_5 Hg, LB.o15 Hg, LB.l15 Hg, LB.q16_1 Hg, LB.o17 Hg, LB.l17 Hg, LB.q16_2 Hg, LB.o18 Hg, LB.l18 Hg, LB.q16_3 Hg, LB.o19 Hg, LB.l19 Hg, LB.q16_4 Hg, LB.o20 Hg, LB.l20 Hg, fd0, fd1, fd2, fd3, fd4, fd5, fd6, fd7, fd8, fd9, fd10, fd11, fd12, fd13, fd14, fd15, fd16, fd17, fd18, fd19, fd20, fd21, fd22, fd23, fd24, fd25, fd26, fd27, fd28, fd29, fd30, fd31, fd32, fd33, fd34, fd35, fd36, fd37, fd38, fd39, fd40, fd41, fd42, fd43, fd44, fd45, fd46, fd47, fd48, fd49, fd50, fd51, fd52, c5, e8g, TB.o0 Tg, -Int.reduceToNat, -Int32.reduceToNatClampNeg, il0, il1, il2, il3, il4, il5, il6, il7, il8, il9, il10, il11, il12, il13, il14, il15, il16, il17, il18, il19, il20, il21, il22, il23, il24, il25, il26, il27, il28, il29, il30, il31, il32, il35, il36, il38, il40, il42, il43, il44, il45, il46, il47, il48, il49, il50, il51, il52, il57, il59, il60, il63, il64, il75, il80, il95, il96, il97, il98, il99, il100, il120, il122, il123, il127, il128, il135, il167, il175, il225, il249, il250, il255, il256, il360, il370, il384, il600, il700, il740, il900, il940, il1024, il1600, il4800, il64000, il125000, il262143, il1000000000, iI_toInt, iI_add, iI_sub, iI_mul, iI_neg, iI_lt, iI_le, iI_eq, iI_n, iI_in, iI_div, iI_mod, iI_shm, iI_and1, iI_and7, iI_and63, iI_shr3, iI_shr6, rd_I, ob, Option.some.injEq, exists_eq_left', exists_eq_left, true_and, and_true, fqI, fqJ, eq_self, true_or, or_true, bP_0, bP_0i, npP, bP_1i, bP_b, not_true_eq_false, not_false_eq_true, false_implies, true_implies, implies_true, Classical.not_not, and_self]
    refine ⟨fun u => by omega, fun _ => ?_⟩
    refine c_put Hg Lg Tg pg (by unfold LD; omega) B.gs.2.1 bb2.2 i0 i1 en.1.1 en.1.2 fun g1 f1 r1 j1 => ?_
    refine nx g1 ⟨F.trans f1, fun r r0 r2 => ?_, fun r r0 r2 x y x0 x1 y0 y1 => ?_⟩
    · rw [r1]
      by_cases cr : r = i
      · rw [cr, updT_s]
      · rw [updT_n cr]; exact I1 r r0 (by omega)
    · rw [j1]
      by_cases cr : r = i
      · rw [cr, if_pos rfl, w2.1, w2.2]
        exact zb_spot vt.1 (in8_of bb0.2 bb1.2 vt.2.1) z1 x0 x1 y0 y1
      · rw [if_neg (by omega)]; exact I2 r r0 (by omega) x y x0 x1 y0 y1
  · obtain ⟨F, I1, I2⟩ := I
    show wb_X8_settle_7 (wl_X8_settle_7 postV k) g 53 la (iI (s 2)) postV
    have Hg : LB g la := H1.gr F.gr (by omega)
    have Lg : LR g la s := L1.fr F (fun j hj => by simp; omega) (fun j hj => by simp; omega)
    have c5 := Lg.c5
    unfold wb_X8_settle_7
    simp (disch := omega) only [LB.o0 Hg, LB.p2 Hg, LB.o1 Hg, LB.l1 Hg, LB.p3 Hg, LB.o2 Hg, LB.l2 Hg, LB.p4 Hg, LB.o3 Hg, LB.l3 Hg, LB.p6 Hg, LB.o4 Hg, LB.l4 Hg, LB.p7 Hg, LB.o5 Hg, LB.l5 Hg, LB.p8 Hg, LB.o6 Hg, LB.l6 Hg, LB.p9 Hg, LB.o7 Hg, LB.l7 Hg, LB.p10 Hg, LB.o8 Hg, LB.l8 Hg, LB.p12 Hg, LB.o9 Hg, LB.l9 Hg, LB.p14 Hg, LB.o10 Hg, LB.p15 Hg, LB.o16 Hg, LB.q10_1 Hg, LB.o11 Hg, LB.l11 Hg, LB.q10_2 Hg, LB.o12 Hg, LB.l12 Hg, LB.q10_3 Hg, LB.o13 Hg, LB.l13 Hg, LB.q10_4 Hg, LB.o14 Hg, LB.l14 Hg, LB.q10_5 Hg, LB.o15 Hg, LB.l15 Hg, LB.q16_1 Hg, LB.o17 Hg, LB.l17 Hg, LB.q16_2 Hg, LB.o18 Hg, LB.l18 Hg, LB.q16_3 Hg, LB.o19 Hg, LB.l19 Hg, LB.q16_4 Hg, LB.o20 Hg, LB.l20 Hg, fd0, fd1, fd2, fd3, fd4, fd5, fd6, fd7, fd8, fd9, fd10, fd11, fd12, fd13, fd14, fd15, fd16, fd17, fd18, fd19, fd20, fd21, fd22, fd23, fd24, fd25, fd26, fd27, fd28, fd29, fd30, fd31, fd32, fd33, fd34, fd35, fd36, fd37, fd38, fd39, fd40, fd41, fd42, fd43, fd44, fd45, fd46, fd47, fd48, fd49, fd50, fd51, fd52, c5, -Int.reduceToNat, -Int32.reduceToNatClampNeg, il0, il1, il2, il3, il4, il5, il6, il7, il8, il9, il10, il11, il12, il13, il14, il15, il16, il17, il18, il19, il20, il21, il22, il23, il24, il25, il26, il27, il28, il29, il30, il31, il32, il35, il36, il38, il40, il42, il43, il44, il45, il46, il47, il48, il49, il50, il51, il52, il57, il59, il60, il63, il64, il75, il80, il95, il96, il97, il98, il99, il100, il120, il122, il123, il127, il128, il135, il167, il175, il225, il249, il250, il255, il256, il360, il370, il384, il600, il700, il740, il900, il940, il1024, il1600, il4800, il64000, il125000, il262143, il1000000000, iI_toInt, iI_add, iI_sub, iI_mul, iI_neg, iI_lt, iI_le, iI_eq, iI_n, iI_in, iI_div, iI_mod, iI_shm, iI_and1, iI_and7, iI_and63, iI_shr3, iI_shr6, rd_I, ob, Option.some.injEq, exists_eq_left', exists_eq_left, true_and, and_true, fqI, fqJ, eq_self, true_or, or_true, bP_0, bP_0i, npP, bP_1i, bP_b, not_true_eq_false, not_false_eq_true, false_implies, true_implies, implies_true, Classical.not_not, and_self]
    exact ⟨fun _ => K g rfl F ⟨T1.gr F.gr (by intro k hk; unfold DynP; simp [hk]), by rw [F.aPe]; exact p1, I1, I2⟩, fun u => by omega⟩
/-- what lagoon() leaves in the class's own row -/
def c0F (h h' : AH) : Prop := (∀ j, j ≠ 1 → j ≠ 2 → rd h' 0 j = rd h 0 j) ∧ rd h' 0 1 = 0
theorem cX_lagoon (I : Inv h i0 la fr qa ac) (hT : rd h 93 = T) (hn : rd h 92 2 = n)
    (KF : ∀ h' (R : RT), R = lsS T n 900 941 plS (fun _ => []) 0 0 0 → R.1 ≠ 0 → Gr (0 :: 2 :: blk fr) (blk fr) [(2, 1)] h h' → aN h' = aN h ∧ aS h' = aS h → c0F h h' → rd h' 0 2 = R.1 → post h' (iI (-1 - R.2.1)))
    (KS : ∀ h' (R : RT), R = lsS T n 900 941 plS (fun _ => []) 0 0 0 → R.1 = 0 → BA R.2.2.1 R.2.2.2.2.1 → Gr (0 :: 2 :: 31 :: 54 :: blk fr) (55 :: blk fr) [(2, 1), (2, 12), (31, 0), (53, 0)] h h' → aN h' = aN h ∧ aS h' = aS h → c0F h h' → rd h' 0 2 = 0 → LB h' fr → LR h' fr R.2.2.1 → NmL h' fr (R.2.2.1 2) R.2.2.2.1 → TR h' 53 fr R.2.2.1 (tS R.2.2.1) (zC R.2.2.1) → aP h' 31 0 = some fr → aP h' 2 12 = some la → rd h' 31 2 = 0 → post h' (iI R.2.2.2.2.2)) : wp_X11_lagoon h 0 post := by
  obtain ⟨S, M, hl, hp, H, L, TT, hG, hZ⟩ := I.core
  have hlf := I.hl
  have I0 := I
  obtain ⟨c1, c2, c3, c4, c5, c6, c7, c8, c9, c10, c11, c12, c13, c14, c15, c16, c17, c18⟩ := I
  obtain ⟨t1, t2, t3, t4⟩ := c11
  have fb : fr = 5 ∨ fr = 32 := by omega
  have bm : ∀ a, a ∈ blk fr → fr ≤ a ∧ a ≤ fr + 20 := fun a ha => mem_blk.mp ha
  unfold wp_X11_lagoon
  simp (disch := omega) only [CSh.o0 S, CSh.o1 S, CSh.o2 S, CSh.o3 S, CSh.o26 S, CSh.o27 S, CSh.o29 S, CSh.o30 S, CSh.o31 S, CSh.o56 S, CSh.o57 S, CSh.o58 S, CSh.o62 S, CSh.o66 S, CSh.o70 S, CSh.o74 S, CSh.o75 S, CSh.o77 S, CSh.o79 S, CSh.o80 S, CSh.o81 S, CSh.o82 S, CSh.o83 S, CSh.o84 S, CSh.o85 S, CSh.o86 S, CSh.o87 S, CSh.o88 S, CSh.o53 S, CSh.o54 S, CSh.o55 S, CSh.o59 S, CSh.o60 S, CSh.o61 S, CSh.o63 S, CSh.o64 S, CSh.o65 S, CSh.o67 S, CSh.o68 S, CSh.o69 S, CSh.o71 S, CSh.o72 S, CSh.o73 S, CSh.o89 S, CSh.o90 S, CSh.o91 S, CSh.l1 S, CSh.l3 S, CSh.l27 S, CSh.l29 S, CSh.l30 S, CSh.l56 S, CSh.l57 S, CSh.l58 S, CSh.l75 S, CSh.l77 S, CSh.l79 S, CSh.l81 S, CSh.l82 S, CSh.l83 S, CSh.l84 S, CSh.l85 S, CSh.l86 S, CSh.l87 S, CSh.l88 S, CSh.l54 S, CSh.l55 S, CSh.l60 S, CSh.l61 S, CSh.l64 S, CSh.l65 S, CSh.l68 S, CSh.l69 S, CSh.l72 S, CSh.l73 S, CSh.l90 S, CSh.l91 S, CSh.p0_0 S, CSh.p0_3 S, CSh.p0_4 S, CSh.p0_5 S, CSh.p0_6 S, CSh.p0_7 S, CSh.p0_8 S, CSh.p0_9 S, CSh.p0_10 S, CSh.p0_14 S, CSh.p2_0 S, CSh.p26_0 S, CSh.p26_13 S, CSh.p26_14 S, CSh.p31_1 S, CSh.p31_3 S, CSh.p31_4 S, CSh.p62_0 S, CSh.p66_0 S, CSh.p70_0 S, CSh.p74_0 S, CSh.p74_1 S, CSh.p74_6 S, CSh.p74_7 S, CSh.p74_10 S, CSh.p80_1 S, CSh.p80_2 S, CSh.p80_3 S, CSh.p80_4 S, CSh.p80_5 S, CSh.p80_6 S, CSh.p80_7 S, CSh.p80_8 S, CSh.p53_1 S, CSh.p53_2 S, CSh.p59_1 S, CSh.p59_2 S, CSh.p63_1 S, CSh.p63_2 S, CSh.p67_1 S, CSh.p67_2 S, CSh.p71_1 S, CSh.p71_2 S, CSh.p89_1 S, CSh.p89_2 S, -Int.reduceToNat, -Int32.reduceToNatClampNeg, il0, il1, il2, il3, il4, il5, il6, il7, il8, il9, il10, il11, il12, il13, il14, il15, il16, il17, il18, il19, il20, il21, il22, il23, il24, il25, il26, il27, il28, il29, il30, il31, il32, il35, il36, il38, il40, il42, il43, il44, il45, il46, il47, il48, il49, il50, il51, il52, il57, il59, il60, il63, il64, il75, il80, il95, il96, il97, il98, il99, il100, il120, il122, il123, il127, il128, il135, il167, il175, il225, il249, il250, il255, il256, il360, il370, il384, il600, il700, il740, il900, il940, il1024, il1600, il4800, il64000, il125000, il262143, il1000000000, ob, Option.some.injEq, exists_eq_left', exists_eq_left, true_and, and_true, fqI, fqJ, eq_self, true_or, or_true, bP_0, bP_0i, npP, bP_1i, bP_b, not_true_eq_false, not_false_eq_true, false_implies, true_implies, implies_true, Classical.not_not, and_self]
  refine c_takeTape S fun g1 F1 R1 => ?_
  rw [t1, hn]
  have S1 := S.gr F1.gr
  have X1 : TXs g1 T := ⟨S1.o1, S1.l1, by rw [F1.row (by simp), t3, hT], by rw [← hT]; exact t4⟩
  have B1 : TBl g1 2 3 := ⟨by rw [F1.aPe]; exact S.p2_0, F1.gr.ob S.o3, by rw [F1.2.2.2.1]; exact S.l3, fun i i0 i1 => by rw [F1.row (by simp)]; exact c17.1 i i0 i1⟩
  refine ⟨S1.o2, c_readLines S1.o2 X1 B1 (c7.gr F1.gr (by omega)) (by rw [F1.aPe]; exact c6) fb (by rw [← hn]; exact t2) fun g2 g3 v eg co => ?_⟩
  have G2 : Gr [] [] [(2, 1)] g1 g2 := by rw [eg]; exact gr_hP1 (k := 1) (by decide)
  obtain ⟨F3, co⟩ := co
  have N3 : aN g3 = aN h ∧ aS g3 = aS h := ⟨by rw [F3.1, eg]; exact F1.1, by rw [F3.2.1, eg]; exact F1.2.1⟩
  have dj : ∀ p, p ∈ [((2 : Nat), (1 : Nat))] → p ∈ DynP := by decide
  have G3 : Gr (0 :: 2 :: blk fr) (blk fr) [(2, 1)] h g3 := (F1.gr.mono (fun a ha => by rw [List.mem_singleton] at ha; rw [ha]; exact List.mem_cons_self) (by simp) (by simp) dj).trans ((G2.mono (by simp) (by simp) (fun _ q => q) dj).trans (F3.gr.mono (fun a ha => List.mem_cons_of_mem _ ha) (fun _ q => q) (by simp) dj))
  have S3 := S.gr G3
  have n0 : (0 : Nat) ∉ 2 :: blk fr := fun q => by
    rcases List.mem_cons.mp q with u | u
    · omega
    · have := bm _ u; omega
  have r0 : rd g3 0 = updT (rd h 0) 1 0 := by rw [F3.row n0, show rd g2 0 = rd g1 0 from by rw [eg]; rfl, R1]
  have b10 := rd_bd g3 2 10
  simp (disch := omega) only [CSh.o0 S3, CSh.o1 S3, CSh.o2 S3, CSh.o3 S3, CSh.o26 S3, CSh.o27 S3, CSh.o29 S3, CSh.o30 S3, CSh.o31 S3, CSh.o56 S3, CSh.o57 S3, CSh.o58 S3, CSh.o62 S3, CSh.o66 S3, CSh.o70 S3, CSh.o74 S3, CSh.o75 S3, CSh.o77 S3, CSh.o79 S3, CSh.o80 S3, CSh.o81 S3, CSh.o82 S3, CSh.o83 S3, CSh.o84 S3, CSh.o85 S3, CSh.o86 S3, CSh.o87 S3, CSh.o88 S3, CSh.o53 S3, CSh.o54 S3, CSh.o55 S3, CSh.o59 S3, CSh.o60 S3, CSh.o61 S3, CSh.o63 S3, CSh.o64 S3, CSh.o65 S3, CSh.o67 S3, CSh.o68 S3, CSh.o69 S3, CSh.o71 S3, CSh.o72 S3, CSh.o73 S3, CSh.o89 S3, CSh.o90 S3, CSh.o91 S3, CSh.l1 S3, CSh.l3 S3, CSh.l27 S3, CSh.l29 S3, CSh.l30 S3, CSh.l56 S3, CSh.l57 S3, CSh.l58 S3, CSh.l75 S3, CSh.l77 S3, CSh.l79 S3, CSh.l81 S3, CSh.l82 S3, CSh.l83 S3, CSh.l84 S3, CSh.l85 S3, CSh.l86 S3, CSh.l87 S3, CSh.l88 S3, CSh.l54 S3, CSh.l55 S3, CSh.l60 S3, CSh.l61 S3, CSh.l64 S3, CSh.l65 S3, CSh.l68 S3, CSh.l69 S3, CSh.l72 S3, CSh.l73 S3, CSh.l90 S3, CSh.l91 S3, CSh.p0_0 S3, CSh.p0_3 S3, CSh.p0_4 S3, CSh.p0_5 S3, CSh.p0_6 S3, CSh.p0_7 S3, CSh.p0_8 S3, CSh.p0_9 S3, CSh.p0_10 S3, CSh.p0_14 S3, CSh.p2_0 S3, CSh.p26_0 S3, CSh.p26_13 S3, CSh.p26_14 S3, CSh.p31_1 S3, CSh.p31_3 S3, CSh.p31_4 S3, CSh.p62_0 S3, CSh.p66_0 S3, CSh.p70_0 S3, CSh.p74_0 S3, CSh.p74_1 S3, CSh.p74_6 S3, CSh.p74_7 S3, CSh.p74_10 S3, CSh.p80_1 S3, CSh.p80_2 S3, CSh.p80_3 S3, CSh.p80_4 S3, CSh.p80_5 S3, CSh.p80_6 S3, CSh.p80_7 S3, CSh.p80_8 S3, CSh.p53_1 S3, CSh.p53_2 S3, CSh.p59_1 S3, CSh.p59_2 S3, CSh.p63_1 S3, CSh.p63_2 S3, CSh.p67_1 S3, CSh.p67_2 S3, CSh.p71_1 S3, CSh.p71_2 S3, CSh.p89_1 S3, CSh.p89_2 S3, fd0, fd1, fd2, fd3, fd4, fd5, fd6, fd7, fd8, fd9, fd10, fd11, fd12, fd13, fd14, fd15, fd16, fd17, fd18, fd19, fd20, fd21, fd22, fd23, fd24, fd25, fd26, fd27, fd28, fd29, fd30, fd31, fd32, fd33, fd34, fd35, fd36, fd37, fd38, fd39, fd40, fd41, fd42, fd43, fd44, fd45, fd46, fd47, fd48, fd49, fd50, fd51, fd52, -Int.reduceToNat, -Int32.reduceToNatClampNeg, il0, il1, il2, il3, il4, il5, il6, il7, il8, il9, il10, il11, il12, il13, il14, il15, il16, il17, il18, il19, il20, il21, il22, il23, il24, il25, il26, il27, il28, il29, il30, il31, il32, il35, il36, il38, il40, il42, il43, il44, il45, il46, il47, il48, il49, il50, il51, il52, il57, il59, il60, il63, il64, il75, il80, il95, il96, il97, il98, il99, il100, il120, il122, il123, il127, il128, il135, il167, il175, il225, il249, il250, il255, il256, il360, il370, il384, il600, il700, il740, il900, il940, il1024, il1600, il4800, il64000, il125000, il262143, il1000000000, iI_toInt, iI_add, iI_sub, iI_mul, iI_neg, iI_lt, iI_le, iI_eq, iI_n, iI_in, iI_div, iI_mod, iI_shm, iI_and1, iI_and7, iI_and63, iI_shr3, iI_shr6, rd_I, ob, Option.some.injEq, exists_eq_left', exists_eq_left, true_and, and_true, fqI, fqJ, eq_self, true_or, or_true, bP_0, bP_0i, npP, bP_1i, bP_b, not_true_eq_false, not_false_eq_true, false_implies, true_implies, implies_true, Classical.not_not, and_self]
  intro g4 w4
  obtain ⟨F4, R4⟩ := wI (i := 2) (by omega) b10.1 b10.2 w4
  have G4 : Gr (0 :: 2 :: blk fr) (blk fr) [(2, 1)] h g4 := G3.trans (F4.gr.mono (fun a ha => by rw [List.mem_singleton] at ha; rw [ha]; exact List.mem_cons_self) (by simp) (by simp) dj)
  have S4 := S.gr G4
  have e02 : rd g4 0 2 = rd g3 2 10 := by rw [R4, updT_s]
  have e211 : rd g4 2 11 = rd g3 2 11 := by rw [F4.row (by simp)]
  have cF : c0F h g4 := ⟨fun j j1 j2 => by rw [R4, updT_n j2, r0, updT_n j1], by rw [R4, updT_n (by omega), r0, updT_s]⟩
  have N4 : aN g4 = aN h ∧ aS g4 = aS h := ⟨by rw [F4.1]; exact N3.1, by rw [F4.2.1]; exact N3.2⟩
  generalize hR : lsS T n 900 941 plS (fun _ => []) 0 0 0 = R at co KF KS
  rcases co with ⟨cf, p, a, RD3⟩ | ⟨cz, ⟨fa, p, a, RD3⟩, C3, ev⟩
  · have f10 := RD3.sf
    have f11 := RD3.sa
    rw [f10] at e02
    rw [f11] at e211
    rw [f10] at b10
    have b11 := rd_bd g3 2 11
    rw [f11] at b11
    simp (disch := omega) only [CSh.o0 S4, CSh.o1 S4, CSh.o2 S4, CSh.o3 S4, CSh.o26 S4, CSh.o27 S4, CSh.o29 S4, CSh.o30 S4, CSh.o31 S4, CSh.o56 S4, CSh.o57 S4, CSh.o58 S4, CSh.o62 S4, CSh.o66 S4, CSh.o70 S4, CSh.o74 S4, CSh.o75 S4, CSh.o77 S4, CSh.o79 S4, CSh.o80 S4, CSh.o81 S4, CSh.o82 S4, CSh.o83 S4, CSh.o84 S4, CSh.o85 S4, CSh.o86 S4, CSh.o87 S4, CSh.o88 S4, CSh.o53 S4, CSh.o54 S4, CSh.o55 S4, CSh.o59 S4, CSh.o60 S4, CSh.o61 S4, CSh.o63 S4, CSh.o64 S4, CSh.o65 S4, CSh.o67 S4, CSh.o68 S4, CSh.o69 S4, CSh.o71 S4, CSh.o72 S4, CSh.o73 S4, CSh.o89 S4, CSh.o90 S4, CSh.o91 S4, CSh.l1 S4, CSh.l3 S4, CSh.l27 S4, CSh.l29 S4, CSh.l30 S4, CSh.l56 S4, CSh.l57 S4, CSh.l58 S4, CSh.l75 S4, CSh.l77 S4, CSh.l79 S4, CSh.l81 S4, CSh.l82 S4, CSh.l83 S4, CSh.l84 S4, CSh.l85 S4, CSh.l86 S4, CSh.l87 S4, CSh.l88 S4, CSh.l54 S4, CSh.l55 S4, CSh.l60 S4, CSh.l61 S4, CSh.l64 S4, CSh.l65 S4, CSh.l68 S4, CSh.l69 S4, CSh.l72 S4, CSh.l73 S4, CSh.l90 S4, CSh.l91 S4, CSh.p0_0 S4, CSh.p0_3 S4, CSh.p0_4 S4, CSh.p0_5 S4, CSh.p0_6 S4, CSh.p0_7 S4, CSh.p0_8 S4, CSh.p0_9 S4, CSh.p0_10 S4, CSh.p0_14 S4, CSh.p2_0 S4, CSh.p26_0 S4, CSh.p26_13 S4, CSh.p26_14 S4, CSh.p31_1 S4, CSh.p31_3 S4, CSh.p31_4 S4, CSh.p62_0 S4, CSh.p66_0 S4, CSh.p70_0 S4, CSh.p74_0 S4, CSh.p74_1 S4, CSh.p74_6 S4, CSh.p74_7 S4, CSh.p74_10 S4, CSh.p80_1 S4, CSh.p80_2 S4, CSh.p80_3 S4, CSh.p80_4 S4, CSh.p80_5 S4, CSh.p80_6 S4, CSh.p80_7 S4, CSh.p80_8 S4, CSh.p53_1 S4, CSh.p53_2 S4, CSh.p59_1 S4, CSh.p59_2 S4, CSh.p63_1 S4, CSh.p63_2 S4, CSh.p67_1 S4, CSh.p67_2 S4, CSh.p71_1 S4, CSh.p71_2 S4, CSh.p89_1 S4, CSh.p89_2 S4, fd0, fd1, fd2, fd3, fd4, fd5, fd6, fd7, fd8, fd9, fd10, fd11, fd12, fd13, fd14, fd15, fd16, fd17, fd18, fd19, fd20, fd21, fd22, fd23, fd24, fd25, fd26, fd27, fd28, fd29, fd30, fd31, fd32, fd33, fd34, fd35, fd36, fd37, fd38, fd39, fd40, fd41, fd42, fd43, fd44, fd45, fd46, fd47, fd48, fd49, fd50, fd51, fd52, e02, e211, -Int.reduceToNat, -Int32.reduceToNatClampNeg, il0, il1, il2, il3, il4, il5, il6, il7, il8, il9, il10, il11, il12, il13, il14, il15, il16, il17, il18, il19, il20, il21, il22, il23, il24, il25, il26, il27, il28, il29, il30, il31, il32, il35, il36, il38, il40, il42, il43, il44, il45, il46, il47, il48, il49, il50, il51, il52, il57, il59, il60, il63, il64, il75, il80, il95, il96, il97, il98, il99, il100, il120, il122, il123, il127, il128, il135, il167, il175, il225, il249, il250, il255, il256, il360, il370, il384, il600, il700, il740, il900, il940, il1024, il1600, il4800, il64000, il125000, il262143, il1000000000, iI_toInt, iI_add, iI_sub, iI_mul, iI_neg, iI_lt, iI_le, iI_eq, iI_n, iI_in, iI_div, iI_mod, iI_shm, iI_and1, iI_and7, iI_and63, iI_shr3, iI_shr6, rd_I, ob, Option.some.injEq, exists_eq_left', exists_eq_left, true_and, and_true, fqI, fqJ, eq_self, true_or, or_true, bP_0, bP_0i, npP, bP_1i, bP_b, not_true_eq_false, not_false_eq_true, false_implies, true_implies, implies_true, Classical.not_not, and_self]
    refine ⟨fun u => absurd u cf, fun _ => ?_⟩
    exact KF g4 R rfl cf G4 N4 cF e02
  · have f10 := RD3.sf
    rw [f10] at e02
    have BN := ls_ok (T := T) (n := n) (m := 900) 941 plS (fun _ => []) 0 0 0 BA.plain (fun r r0 r1 => by rw [plS_0 (by omega)] at r1; omega) (by rw [← hn]; exact ⟨by omega, t2.1⟩) (by omega) (by rw [hR]; exact cz)
    rw [hR] at BN
    have KS := KS
    generalize hs : R.2.2.1 = s at BN C3
    generalize hN : R.2.2.2.1 = N at BN C3
    generalize ht : R.2.2.2.2.1 = td at BN C3
    have B : BA s td := BN.1
    obtain ⟨CH, CL', CM, Cst, Cft, Ctt, Cfb⟩ := C3
    have p31 : aP g4 31 0 = some la := (G4.dyn (S.o31).2 (by decide)).trans hp
    have p212 : aP g4 2 12 = some fr := by rw [F4.aPe]; exact Cft
    simp (disch := omega) only [CSh.o0 S4, CSh.o1 S4, CSh.o2 S4, CSh.o3 S4, CSh.o26 S4, CSh.o27 S4, CSh.o29 S4, CSh.o30 S4, CSh.o31 S4, CSh.o56 S4, CSh.o57 S4, CSh.o58 S4, CSh.o62 S4, CSh.o66 S4, CSh.o70 S4, CSh.o74 S4, CSh.o75 S4, CSh.o77 S4, CSh.o79 S4, CSh.o80 S4, CSh.o81 S4, CSh.o82 S4, CSh.o83 S4, CSh.o84 S4, CSh.o85 S4, CSh.o86 S4, CSh.o87 S4, CSh.o88 S4, CSh.o53 S4, CSh.o54 S4, CSh.o55 S4, CSh.o59 S4, CSh.o60 S4, CSh.o61 S4, CSh.o63 S4, CSh.o64 S4, CSh.o65 S4, CSh.o67 S4, CSh.o68 S4, CSh.o69 S4, CSh.o71 S4, CSh.o72 S4, CSh.o73 S4, CSh.o89 S4, CSh.o90 S4, CSh.o91 S4, CSh.l1 S4, CSh.l3 S4, CSh.l27 S4, CSh.l29 S4, CSh.l30 S4, CSh.l56 S4, CSh.l57 S4, CSh.l58 S4, CSh.l75 S4, CSh.l77 S4, CSh.l79 S4, CSh.l81 S4, CSh.l82 S4, CSh.l83 S4, CSh.l84 S4, CSh.l85 S4, CSh.l86 S4, CSh.l87 S4, CSh.l88 S4, CSh.l54 S4, CSh.l55 S4, CSh.l60 S4, CSh.l61 S4, CSh.l64 S4, CSh.l65 S4, CSh.l68 S4, CSh.l69 S4, CSh.l72 S4, CSh.l73 S4, CSh.l90 S4, CSh.l91 S4, CSh.p0_0 S4, CSh.p0_3 S4, CSh.p0_4 S4, CSh.p0_5 S4, CSh.p0_6 S4, CSh.p0_7 S4, CSh.p0_8 S4, CSh.p0_9 S4, CSh.p0_10 S4, CSh.p0_14 S4, CSh.p2_0 S4, CSh.p26_0 S4, CSh.p26_13 S4, CSh.p26_14 S4, CSh.p31_1 S4, CSh.p31_3 S4, CSh.p31_4 S4, CSh.p62_0 S4, CSh.p66_0 S4, CSh.p70_0 S4, CSh.p74_0 S4, CSh.p74_1 S4, CSh.p74_6 S4, CSh.p74_7 S4, CSh.p74_10 S4, CSh.p80_1 S4, CSh.p80_2 S4, CSh.p80_3 S4, CSh.p80_4 S4, CSh.p80_5 S4, CSh.p80_6 S4, CSh.p80_7 S4, CSh.p80_8 S4, CSh.p53_1 S4, CSh.p53_2 S4, CSh.p59_1 S4, CSh.p59_2 S4, CSh.p63_1 S4, CSh.p63_2 S4, CSh.p67_1 S4, CSh.p67_2 S4, CSh.p71_1 S4, CSh.p71_2 S4, CSh.p89_1 S4, CSh.p89_2 S4, fd0, fd1, fd2, fd3, fd4, fd5, fd6, fd7, fd8, fd9, fd10, fd11, fd12, fd13, fd14, fd15, fd16, fd17, fd18, fd19, fd20, fd21, fd22, fd23, fd24, fd25, fd26, fd27, fd28, fd29, fd30, fd31, fd32, fd33, fd34, fd35, fd36, fd37, fd38, fd39, fd40, fd41, fd42, fd43, fd44, fd45, fd46, fd47, fd48, fd49, fd50, fd51, fd52, e02, p212, -Int.reduceToNat, -Int32.reduceToNatClampNeg, il0, il1, il2, il3, il4, il5, il6, il7, il8, il9, il10, il11, il12, il13, il14, il15, il16, il17, il18, il19, il20, il21, il22, il23, il24, il25, il26, il27, il28, il29, il30, il31, il32, il35, il36, il38, il40, il42, il43, il44, il45, il46, il47, il48, il49, il50, il51, il52, il57, il59, il60, il63, il64, il75, il80, il95, il96, il97, il98, il99, il100, il120, il122, il123, il127, il128, il135, il167, il175, il225, il249, il250, il255, il256, il360, il370, il384, il600, il700, il740, il900, il940, il1024, il1600, il4800, il64000, il125000, il262143, il1000000000, iI_toInt, iI_add, iI_sub, iI_mul, iI_neg, iI_lt, iI_le, iI_eq, iI_n, iI_in, iI_div, iI_mod, iI_shm, iI_and1, iI_and7, iI_and63, iI_shr3, iI_shr6, rd_I, ob, Option.some.injEq, exists_eq_left', exists_eq_left, true_and, and_true, fqI, fqJ, eq_self, true_or, or_true, bP_0, bP_0i, npP, bP_1i, bP_b, not_true_eq_false, not_false_eq_true, false_implies, true_implies, implies_true, Classical.not_not, and_self]
    unfold wp_X5_begin
    simp (disch := omega) only [CSh.o0 S4, CSh.o1 S4, CSh.o2 S4, CSh.o3 S4, CSh.o26 S4, CSh.o27 S4, CSh.o29 S4, CSh.o30 S4, CSh.o31 S4, CSh.o56 S4, CSh.o57 S4, CSh.o58 S4, CSh.o62 S4, CSh.o66 S4, CSh.o70 S4, CSh.o74 S4, CSh.o75 S4, CSh.o77 S4, CSh.o79 S4, CSh.o80 S4, CSh.o81 S4, CSh.o82 S4, CSh.o83 S4, CSh.o84 S4, CSh.o85 S4, CSh.o86 S4, CSh.o87 S4, CSh.o88 S4, CSh.o53 S4, CSh.o54 S4, CSh.o55 S4, CSh.o59 S4, CSh.o60 S4, CSh.o61 S4, CSh.o63 S4, CSh.o64 S4, CSh.o65 S4, CSh.o67 S4, CSh.o68 S4, CSh.o69 S4, CSh.o71 S4, CSh.o72 S4, CSh.o73 S4, CSh.o89 S4, CSh.o90 S4, CSh.o91 S4, CSh.l1 S4, CSh.l3 S4, CSh.l27 S4, CSh.l29 S4, CSh.l30 S4, CSh.l56 S4, CSh.l57 S4, CSh.l58 S4, CSh.l75 S4, CSh.l77 S4, CSh.l79 S4, CSh.l81 S4, CSh.l82 S4, CSh.l83 S4, CSh.l84 S4, CSh.l85 S4, CSh.l86 S4, CSh.l87 S4, CSh.l88 S4, CSh.l54 S4, CSh.l55 S4, CSh.l60 S4, CSh.l61 S4, CSh.l64 S4, CSh.l65 S4, CSh.l68 S4, CSh.l69 S4, CSh.l72 S4, CSh.l73 S4, CSh.l90 S4, CSh.l91 S4, CSh.p0_0 S4, CSh.p0_3 S4, CSh.p0_4 S4, CSh.p0_5 S4, CSh.p0_6 S4, CSh.p0_7 S4, CSh.p0_8 S4, CSh.p0_9 S4, CSh.p0_10 S4, CSh.p0_14 S4, CSh.p2_0 S4, CSh.p26_0 S4, CSh.p26_13 S4, CSh.p26_14 S4, CSh.p31_1 S4, CSh.p31_3 S4, CSh.p31_4 S4, CSh.p62_0 S4, CSh.p66_0 S4, CSh.p70_0 S4, CSh.p74_0 S4, CSh.p74_1 S4, CSh.p74_6 S4, CSh.p74_7 S4, CSh.p74_10 S4, CSh.p80_1 S4, CSh.p80_2 S4, CSh.p80_3 S4, CSh.p80_4 S4, CSh.p80_5 S4, CSh.p80_6 S4, CSh.p80_7 S4, CSh.p80_8 S4, CSh.p53_1 S4, CSh.p53_2 S4, CSh.p59_1 S4, CSh.p59_2 S4, CSh.p63_1 S4, CSh.p63_2 S4, CSh.p67_1 S4, CSh.p67_2 S4, CSh.p71_1 S4, CSh.p71_2 S4, CSh.p89_1 S4, CSh.p89_2 S4, p31, -Int.reduceToNat, -Int32.reduceToNatClampNeg, il0, il1, il2, il3, il4, il5, il6, il7, il8, il9, il10, il11, il12, il13, il14, il15, il16, il17, il18, il19, il20, il21, il22, il23, il24, il25, il26, il27, il28, il29, il30, il31, il32, il35, il36, il38, il40, il42, il43, il44, il45, il46, il47, il48, il49, il50, il51, il52, il57, il59, il60, il63, il64, il75, il80, il95, il96, il97, il98, il99, il100, il120, il122, il123, il127, il128, il135, il167, il175, il225, il249, il250, il255, il256, il360, il370, il384, il600, il700, il740, il900, il940, il1024, il1600, il4800, il64000, il125000, il262143, il1000000000, ob, Option.some.injEq, exists_eq_left', exists_eq_left, true_and, and_true, fqI, fqJ, eq_self, true_or, or_true, bP_0, bP_0i, npP, bP_1i, bP_b, not_true_eq_false, not_false_eq_true, false_implies, true_implies, implies_true, Classical.not_not, and_self]
    intro g5 e5
    have G5 : Gr [] [] [(31, 0)] g4 g5 := by rw [e5]; exact gr_hP1 (k := 0) (by decide)
    have S5 := S4.gr G5
    have H4 : LB g4 fr := CH.gr F4.gr (by omega)
    have L4 : LR g4 fr s := CL'.fr F4 (fun j hj => by simp; omega) (fun j hj => by simp)
    have T5 : TB g5 53 := (I0.scn.1.2.2.2.1.gr G4 (by intro k hk; unfold DynP; simp [hk])).gr G5 (by intro k hk; unfold DynP; simp [hk])
    refine ⟨S5.o31, 53, S5.p31_1, S5.o53, ?_⟩
    have r5 : ∀ a, rd g5 a = rd g4 a := fun a => by rw [e5]; rfl
    refine c_settle (H4.gr G5 (by omega)) (L4.grw H4 G5 (fun j _ => List.not_mem_nil) (fun j _ => List.not_mem_nil)) B T5 (fun r r0 r1 => by rw [r5, F4.row (by simp)]; exact Cst r r0 r1) fb fun g6 g7 e6 F7 T7 => ?_
    have G6 : Gr [] [] [(53, 0)] g5 g6 := by rw [e6]; exact gr_hP1 (k := 0) (by decide)
    have S7 := (S5.gr G6).gr F7.gr
    refine ⟨S7.o31, fun g8 e8 => ?_⟩
    obtain ⟨F8, R8⟩ := wI (i := 2) (v := 0) (by omega) (by omega) (by omega) e8
    have S8 := S7.gr F8.gr
    refine ⟨S8.o2, fun g9 e9 => ?_⟩
    have G9 : Gr [] [] [(2, 12)] g8 g9 := by rw [e9]; exact gr_hP1 (k := 12) (by decide)
    have dq : ∀ p, p ∈ [((2 : Nat), (1 : Nat)), (2, 12), (31, 0), (53, 0)] → p ∈ DynP := by decide
    have mi : ∀ a, a = 0 ∨ a = 2 ∨ a = 31 ∨ a = 54 ∨ a ∈ blk fr → a ∈ 0 :: 2 :: 31 :: 54 :: blk fr := fun a ha => by simp only [List.mem_cons]; exact ha
    have G48 : Gr (0 :: 2 :: 31 :: 54 :: blk fr) (55 :: blk fr) [(2, 1), (2, 12), (31, 0), (53, 0)] g4 g9 := (G5.mono (by simp) (by simp) (by simp) dq).trans ((G6.mono (by simp) (by simp) (by simp) dq).trans ((F7.gr.mono (fun a ha => mi a (by simp at ha; omega)) (fun a ha => by simp at ha; rw [ha]; exact List.mem_cons_self) (by simp) dq).trans ((F8.gr.mono (fun a ha => mi a (by simp at ha; omega)) (by simp) (by simp) dq).trans (G9.mono (by simp) (by simp) (by simp) dq))))
    have GG : Gr (0 :: 2 :: 31 :: 54 :: blk fr) (55 :: blk fr) [(2, 1), (2, 12), (31, 0), (53, 0)] h g9 := (G4.mono (fun a ha => by simp only [List.mem_cons] at ha; exact mi a (by rcases ha with u | u | u <;> simp [u])) (fun a ha => List.mem_cons_of_mem _ ha) (by simp) dq).trans G48
    have nb : ∀ a, a < 5 ∨ 53 ≤ a → a ∉ blk fr := fun a ha q => by have := bm a q; omega
    have row9 : ∀ a, a ≠ 54 → a ≠ 31 → rd g9 a = rd g4 a := fun a a1 a2 => by
      rw [show rd g9 a = rd g8 a from by rw [e9]; rfl, F8.row (by simpa using a2), F7.row (by simpa using a1), show rd g6 a = rd g5 a from by rw [e6]; rfl, r5]
    have jow9 : ∀ a, a ≠ 55 → aJ g9 a = aJ g4 a := fun a a1 => by
      rw [show aJ g9 a = aJ g8 a from by rw [e9]; rfl, F8.2.2.2.2.2.1 a (by simp), F7.2.2.2.2.2.1 a (by simpa using a1), show aJ g6 a = aJ g5 a from by rw [e6]; rfl, show aJ g5 a = aJ g4 a from by rw [e5]; rfl]
    have H9 : LB g9 fr := H4.gr G48 (by omega)
    have L9 : LR g9 fr s := by
      have L5 := L4.grw H4 G5 (fun j _ => List.not_mem_nil) (fun j _ => List.not_mem_nil)
      have H5 := H4.gr G5 (by omega)
      have L6 := L5.grw H5 G6 (fun j _ => List.not_mem_nil) (fun j _ => List.not_mem_nil)
      have H6 := H5.gr G6 (by omega)
      have L7 := L6.grw H6 F7.gr (fun j hj => by simp; omega) (fun j hj => by simp; omega)
      have H7 := H6.gr F7.gr (by omega)
      have L8 := L7.grw H7 F8.gr (fun j hj => by simp; omega) (fun j hj => by simp)
      exact L8.grw (H7.gr F8.gr (by omega)) G9 (fun j _ => List.not_mem_nil) (fun j _ => List.not_mem_nil)
    have T9 : TR g9 53 fr s (tS s) (zC s) := (T7.gr F8.gr (by intro k hk; unfold DynP; simp [hk]) (by simp) (by simp) (by simp)).gr G9 (by intro k hk; unfold DynP; simp [hk]) (by simp) (by simp) (by simp)
    have q31 : aP g9 31 0 = some fr := by
      rw [G9.dyn S8.o31.2 (by decide), F8.aPe, F7.aPe, G6.dyn S5.o31.2 (by decide), e5, aP_hP, if_pos rfl]
    have q2 : aP g9 2 12 = some la := by rw [e9, aP_hP, if_pos rfl]
    have := KS g9 R rfl cz (by rw [hs, ht]; exact B) GG ⟨by rw [e9]; show aN g8 = _; rw [F8.1, F7.1, e6]; show aN g5 = _; rw [e5]; exact N4.1, by rw [e9]; show aS g8 = _; rw [F8.2.1, F7.2.1, e6]; show aS g5 = _; rw [e5]; exact N4.2⟩ ⟨fun j j1 j2 => by rw [row9 0 (by omega) (by omega)]; exact cF.1 j j1 j2, by rw [row9 0 (by omega) (by omega)]; exact cF.2⟩ (by rw [row9 0 (by omega) (by omega)]; exact e02) H9 (by rw [hs]; exact L9) (by rw [hs, hN]; intro r r0 r1; rw [row9 _ (by omega) (by omega), F4.row (by simp)]; exact CM r r0 r1) (by rw [hs]; exact T9) q31 q2 (by rw [show rd g9 31 = rd g8 31 from by rw [e9]; rfl, R8, updT_s])
    rw [ev]
    exact this
end CLG
