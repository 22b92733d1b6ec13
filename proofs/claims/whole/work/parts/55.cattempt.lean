/-! an act tried in the class -/
noncomputable def attT (s t z : Int → Int) (r how hr : Int) : Int := iteP (whyT s t z r how hr = 0) (enc (candT s t z r how) r) (-whyT s t z r how hr)
section CATT
variable {h : AH} {la tw : Nat} {s t z T : Int → Int} {post : AH → Int32 → Prop} {postJ : AH → Int64 → Prop} {a b c d r x y n sp sq w hh u hr how one : Int} {zz : Int64}
theorem gsp_enc (e : EZ z s) (h1 : 0 ≤ a) (h2 : a < 8) (h1' : 0 ≤ b) (h2' : b < 8) (ha : Spot T z a) (hb : Spot T z b) (hZa : Z1 z a) (hZb : Z1 z b) :
    gsp (enc T a % 8) (enc T a / 8 % 8) (wsp s a (enc T a)) (hsp s a (enc T a)) (enc T b % 8) (enc T b / 8 % 8) (wsp s b (enc T b)) (hsp s b (enc T b)) = gapT T z a b := by
  have ea := enc_nums ha
  have eb := enc_nums hb
  have wa := wsp_enc e h1 h2 ha
  have wb := wsp_enc e h1' h2' hb
  have va := wd_Z ha.P1 hZa
  have vb := wd_Z hb.P1 hZb
  rw [ea.2.1, ea.2.2.1, eb.2.1, eb.2.2.1, wa.1, wa.2, wb.1, wb.2]
  exact gsp_gap va.1.1 va.2.1 vb.1.1 vb.2.1
theorem c_ropesReach (H : LB h la) (L : LR h la s) (B : TB h tw) (hp : aP h tw 0 = some la) (hG : GS s) (e : EZ z s) (h1 : 0 ≤ r) (h2 : r < s 2) (hSp : Spot T z r) (hO : ∀ o, 0 ≤ o → o < s 2 → o ≠ r → rd h (tw + 1) o = enc T o ∧ Spot T z o) : wp_X8_ropesReach h tw (iI r) (iI (enc T r)) post ↔ post h (bP (¬ farT s T z r)) := by
  obtain ⟨⟨hS, n0, n1, n2, n3, n4, n5, hK, hW⟩, hD, hPo, hNe⟩ := hG
  have s4 := hS 4 (by omega) (by omega)
  have en := enc_nums hSp
  have hZ := fun o o1 (o2 : o < s 2) => Z1.of e hD o1 o2 n2
  unfold wp_X8_ropesReach
  simp (disch := omega) only [LB.o0 H, LB.p2 H, LB.o1 H, LB.l1 H, LB.p3 H, LB.o2 H, LB.l2 H, LB.p4 H, LB.o3 H, LB.l3 H, LB.p6 H, LB.o4 H, LB.l4 H, LB.p7 H, LB.o5 H, LB.l5 H, LB.p8 H, LB.o6 H, LB.l6 H, LB.p9 H, LB.o7 H, LB.l7 H, LB.p10 H, LB.o8 H, LB.l8 H, LB.p12 H, LB.o9 H, LB.l9 H, LB.p14 H, LB.o10 H, LB.p15 H, LB.o16 H, LB.q10_1 H, LB.o11 H, LB.l11 H, LB.q10_2 H, LB.o12 H, LB.l12 H, LB.q10_3 H, LB.o13 H, LB.l13 H, LB.q10_4 H, LB.o14 H, LB.l14 H, LB.q10_5 H, LB.o15 H, LB.l15 H, LB.q16_1 H, LB.o17 H, LB.l17 H, LB.q16_2 H, LB.o18 H, LB.l18 H, LB.q16_3 H, LB.o19 H, LB.l19 H, LB.q16_4 H, LB.o20 H, LB.l20 H, TB.o0 B, TB.p1 B, TB.o1 B, TB.l1 B, TB.p2 B, TB.o2 B, TB.l2 B, hp, fd0, fd1, fd2, fd3, fd4, fd5, fd6, fd7, fd8, fd9, fd10, fd11, fd12, fd13, fd14, fd15, fd16, fd17, fd18, fd19, fd20, fd21, fd22, fd23, fd24, fd25, fd26, fd27, fd28, fd29, fd30, fd31, fd32, fd33, fd34, fd35, fd36, fd37, fd38, fd39, fd40, fd41, fd42, fd43, fd44, fd45, fd46, fd47, fd48, fd49, fd50, fd51, fd52, LR.c0 L, LR.c1 L, LR.c5 L, LR.c11 L, LR.q0 L, LR.w0 L, LR.td L, LR.wi L, LR.hi L, LR.dr L, LR.po L, LR.ro L, LR.rp L, LR.rq L, LR.rh L, LR.mo L, LR.wk L, LR.wh L, LR.wt L, LR.ww L, -Int.reduceToNat, -Int32.reduceToNatClampNeg, il0, il1, il2, il3, il4, il5, il6, il7, il8, il9, il10, il11, il12, il13, il14, il15, il16, il17, il18, il19, il20, il21, il22, il23, il24, il25, il26, il27, il28, il29, il30, il31, il32, il35, il36, il38, il40, il42, il43, il44, il45, il46, il47, il48, il49, il50, il51, il52, il57, il59, il60, il63, il64, il75, il80, il95, il96, il97, il98, il99, il100, il120, il122, il123, il127, il128, il135, il167, il175, il225, il249, il250, il255, il256, il360, il370, il384, il600, il700, il740, il900, il940, il1024, il1600, il4800, il64000, il125000, il262143, il1000000000, iI_toInt, iI_add, iI_sub, iI_mul, iI_neg, iI_lt, iI_le, iI_eq, iI_n, iI_in, iI_div, iI_mod, iI_shm, iI_and1, iI_and7, iI_and63, iI_shr3, iI_shr6, rd_I, lgc, z_bit, ob, Option.some.injEq, exists_eq_left', exists_eq_left, true_and, and_true, fqI, fqJ, eq_self, true_or, or_true, bP_0, bP_0i, npP, bP_1i, bP_b, not_true_eq_false, not_false_eq_true, false_implies, true_implies, implies_true, Classical.not_not, and_self, cP, cP', ite_n, ite_T, ite_F, ite_t, ite_f]
  have key := lp_all (W := fun n i => wl_X8_ropesReach_11 post n h tw (iI r) (iI (enc T r)) (la + 10) (iI i)) (h := h) (post := post) (P := fun k => (s (135 + 4 * k) = r ∨ s (135 + 4 * k + 1) = r) ∧ s (135 + 4 * k + 2) < gapT T z (s (135 + 4 * k)) (s (135 + 4 * k + 1))) (lo := 0) (hi := s 4) (by omega) (fun i q => q) (fun n k k1 k2 => ?_) (fun n => ?_)
  · rw [key]
    refine iff_of_eq (congrArg (post h) (bP_c ?_))
    unfold farT
    constructor
    · rintro q ⟨k, k1, k2, k3⟩; exact q k k1 k2 k3
    · intro q k k1 k2 k3; exact q ⟨k, k1, k2, k3⟩
  · show wb_X8_ropesReach_11 (wl_X8_ropesReach_11 post n) h tw (iI r) (iI (enc T r)) (la + 10) (iI k) post ↔ _
    obtain ⟨⟨q1, q2⟩, q3, q4⟩ := hK k k1 k2
    have ne := hNe k k1 k2
    have s1 := hS (135 + 4 * k + 2) (by omega) (by omega)
    unfold wb_X8_ropesReach_11
    simp (disch := omega) only [LB.o0 H, LB.p2 H, LB.o1 H, LB.l1 H, LB.p3 H, LB.o2 H, LB.l2 H, LB.p4 H, LB.o3 H, LB.l3 H, LB.p6 H, LB.o4 H, LB.l4 H, LB.p7 H, LB.o5 H, LB.l5 H, LB.p8 H, LB.o6 H, LB.l6 H, LB.p9 H, LB.o7 H, LB.l7 H, LB.p10 H, LB.o8 H, LB.l8 H, LB.p12 H, LB.o9 H, LB.l9 H, LB.p14 H, LB.o10 H, LB.p15 H, LB.o16 H, LB.q10_1 H, LB.o11 H, LB.l11 H, LB.q10_2 H, LB.o12 H, LB.l12 H, LB.q10_3 H, LB.o13 H, LB.l13 H, LB.q10_4 H, LB.o14 H, LB.l14 H, LB.q10_5 H, LB.o15 H, LB.l15 H, LB.q16_1 H, LB.o17 H, LB.l17 H, LB.q16_2 H, LB.o18 H, LB.l18 H, LB.q16_3 H, LB.o19 H, LB.l19 H, LB.q16_4 H, LB.o20 H, LB.l20 H, TB.o0 B, TB.p1 B, TB.o1 B, TB.l1 B, TB.p2 B, TB.o2 B, TB.l2 B, hp, fd0, fd1, fd2, fd3, fd4, fd5, fd6, fd7, fd8, fd9, fd10, fd11, fd12, fd13, fd14, fd15, fd16, fd17, fd18, fd19, fd20, fd21, fd22, fd23, fd24, fd25, fd26, fd27, fd28, fd29, fd30, fd31, fd32, fd33, fd34, fd35, fd36, fd37, fd38, fd39, fd40, fd41, fd42, fd43, fd44, fd45, fd46, fd47, fd48, fd49, fd50, fd51, fd52, LR.c0 L, LR.c1 L, LR.c5 L, LR.c11 L, LR.q0 L, LR.w0 L, LR.td L, LR.wi L, LR.hi L, LR.dr L, LR.po L, LR.ro L, LR.rp L, LR.rq L, LR.rh L, LR.mo L, LR.wk L, LR.wh L, LR.wt L, LR.ww L, -Int.reduceToNat, -Int32.reduceToNatClampNeg, il0, il1, il2, il3, il4, il5, il6, il7, il8, il9, il10, il11, il12, il13, il14, il15, il16, il17, il18, il19, il20, il21, il22, il23, il24, il25, il26, il27, il28, il29, il30, il31, il32, il35, il36, il38, il40, il42, il43, il44, il45, il46, il47, il48, il49, il50, il51, il52, il57, il59, il60, il63, il64, il75, il80, il95, il96, il97, il98, il99, il100, il120, il122, il123, il127, il128, il135, il167, il175, il225, il249, il250, il255, il256, il360, il370, il384, il600, il700, il740, il900, il940, il1024, il1600, il4800, il64000, il125000, il262143, il1000000000, iI_toInt, iI_add, iI_sub, iI_mul, iI_neg, iI_lt, iI_le, iI_eq, iI_n, iI_in, iI_div, iI_mod, iI_shm, iI_and1, iI_and7, iI_and63, iI_shr3, iI_shr6, rd_I, lgc, z_bit, ob, Option.some.injEq, exists_eq_left', exists_eq_left, true_and, and_true, fqI, fqJ, eq_self, true_or, or_true, bP_0, bP_0i, npP, bP_1i, bP_b, not_true_eq_false, not_false_eq_true, false_implies, true_implies, implies_true, Classical.not_not, and_self, cP, cP', ite_n, ite_f]
    have go : ∀ o, 0 ≤ o → o < s 2 → o ≠ r → s (135 + 4 * k) + s (135 + 4 * k + 1) - r = o → gapT T z (s (135 + 4 * k)) (s (135 + 4 * k + 1)) = gapT T z r o →
        (wb_X8_ropesReach_42 (wl_X8_ropesReach_11 post n) h tw (iI r) (iI (enc T r)) (la + 10) (iI k) post ↔ iteP (s (135 + 4 * k + 2) < gapT T z (s (135 + 4 * k)) (s (135 + 4 * k + 1))) (post h (iI 0)) (wl_X8_ropesReach_11 post n h tw (iI r) (iI (enc T r)) (la + 10) (iI (k + 1)))) := by
      intro o o1 o2 o3 eo eg
      have hOo := hO o o1 o2 o3
      have en' := enc_nums hOo.2
      have gg := gsp_enc e h1 (show r < 8 by omega) o1 (show o < 8 by omega) hSp hOo.2 (hZ r h1 h2) (hZ o o1 o2)
      have gb := gapT_bd (RBd.of hSp.P1 (hZ r h1 h2)) (RBd.of hOo.2.P1 (hZ o o1 o2))
      rw [eg]
      unfold wb_X8_ropesReach_42 wb_X8_ropesReach_91
      simp (disch := omega) only [LB.o0 H, LB.p2 H, LB.o1 H, LB.l1 H, LB.p3 H, LB.o2 H, LB.l2 H, LB.p4 H, LB.o3 H, LB.l3 H, LB.p6 H, LB.o4 H, LB.l4 H, LB.p7 H, LB.o5 H, LB.l5 H, LB.p8 H, LB.o6 H, LB.l6 H, LB.p9 H, LB.o7 H, LB.l7 H, LB.p10 H, LB.o8 H, LB.l8 H, LB.p12 H, LB.o9 H, LB.l9 H, LB.p14 H, LB.o10 H, LB.p15 H, LB.o16 H, LB.q10_1 H, LB.o11 H, LB.l11 H, LB.q10_2 H, LB.o12 H, LB.l12 H, LB.q10_3 H, LB.o13 H, LB.l13 H, LB.q10_4 H, LB.o14 H, LB.l14 H, LB.q10_5 H, LB.o15 H, LB.l15 H, LB.q16_1 H, LB.o17 H, LB.l17 H, LB.q16_2 H, LB.o18 H, LB.l18 H, LB.q16_3 H, LB.o19 H, LB.l19 H, LB.q16_4 H, LB.o20 H, LB.l20 H, TB.o0 B, TB.p1 B, TB.o1 B, TB.l1 B, TB.p2 B, TB.o2 B, TB.l2 B, hp, fd0, fd1, fd2, fd3, fd4, fd5, fd6, fd7, fd8, fd9, fd10, fd11, fd12, fd13, fd14, fd15, fd16, fd17, fd18, fd19, fd20, fd21, fd22, fd23, fd24, fd25, fd26, fd27, fd28, fd29, fd30, fd31, fd32, fd33, fd34, fd35, fd36, fd37, fd38, fd39, fd40, fd41, fd42, fd43, fd44, fd45, fd46, fd47, fd48, fd49, fd50, fd51, fd52, LR.c0 L, LR.c1 L, LR.c5 L, LR.c11 L, LR.q0 L, LR.w0 L, LR.td L, LR.wi L, LR.hi L, LR.dr L, LR.po L, LR.ro L, LR.rp L, LR.rq L, LR.rh L, LR.mo L, LR.wk L, LR.wh L, LR.wt L, LR.ww L, -Int.reduceToNat, -Int32.reduceToNatClampNeg, il0, il1, il2, il3, il4, il5, il6, il7, il8, il9, il10, il11, il12, il13, il14, il15, il16, il17, il18, il19, il20, il21, il22, il23, il24, il25, il26, il27, il28, il29, il30, il31, il32, il35, il36, il38, il40, il42, il43, il44, il45, il46, il47, il48, il49, il50, il51, il52, il57, il59, il60, il63, il64, il75, il80, il95, il96, il97, il98, il99, il100, il120, il122, il123, il127, il128, il135, il167, il175, il225, il249, il250, il255, il256, il360, il370, il384, il600, il700, il740, il900, il940, il1024, il1600, il4800, il64000, il125000, il262143, il1000000000, iI_toInt, iI_add, iI_sub, iI_mul, iI_neg, iI_lt, iI_le, iI_eq, iI_n, iI_in, iI_div, iI_mod, iI_shm, iI_and1, iI_and7, iI_and63, iI_shr3, iI_shr6, rd_I, lgc, z_bit, ob, Option.some.injEq, exists_eq_left', exists_eq_left, true_and, and_true, fqI, fqJ, eq_self, true_or, or_true, bP_0, bP_0i, npP, bP_1i, bP_b, not_true_eq_false, not_false_eq_true, false_implies, true_implies, implies_true, Classical.not_not, and_self, eo, hOo.1, c_between H L hD n2 h1 h2 en.1.1 en.1.2 o1 o2 en'.1.1 en'.1.2, gg, cP, cP', ite_n, ite_f]
      by_cases cc : gapT T z r o ≤ s (135 + 4 * k + 2)
      · rw [ite_t cc, ite_f (by omega)]
      · rw [ite_f cc, ite_t (by omega)]
    by_cases c1 : s (135 + 4 * k) = r
    · rw [ite_t c1, go (s (135 + 4 * k + 1)) q3 q4 (by omega) (by omega) (by rw [c1])]
      refine iff_of_eq (ite_c ⟨fun q => ⟨Or.inl c1, q⟩, fun q => q.2⟩)
    · rw [ite_f c1]
      by_cases c2 : s (135 + 4 * k + 1) = r
      · have hZr := hZ r h1 h2
        have hOo := hO (s (135 + 4 * k)) q1 q2 (by omega)
        have va := wd_Z hSp.P1 hZr
        have vb := wd_Z hOo.2.P1 (hZ _ q1 q2)
        rw [ite_t c2, go (s (135 + 4 * k)) q1 q2 (by omega) (by omega) (by rw [c2]; exact gap_sym vb.1.1 vb.2.1 va.1.1 va.2.1)]
        refine iff_of_eq (ite_c ⟨fun q => ⟨Or.inr c2, q⟩, fun q => q.2⟩)
      · rw [ite_f c2, ite_f (fun q => by rcases q.1 with q | q; exact c1 q; exact c2 q)]
        unfold wb_X8_ropesReach_91
        simp (disch := omega) only [-Int.reduceToNat, -Int32.reduceToNatClampNeg, il0, il1, il2, il3, il4, il5, il6, il7, il8, il9, il10, il11, il12, il13, il14, il15, il16, il17, il18, il19, il20, il21, il22, il23, il24, il25, il26, il27, il28, il29, il30, il31, il32, il35, il36, il38, il40, il42, il43, il44, il45, il46, il47, il48, il49, il50, il51, il52, il57, il59, il60, il63, il64, il75, il80, il95, il96, il97, il98, il99, il100, il120, il122, il123, il127, il128, il135, il167, il175, il225, il249, il250, il255, il256, il360, il370, il384, il600, il700, il740, il900, il940, il1024, il1600, il4800, il64000, il125000, il262143, il1000000000, iI_toInt, iI_add, iI_sub, iI_mul, iI_neg, iI_lt, iI_le, iI_eq, iI_n, iI_in, iI_div, iI_mod, iI_shm, iI_and1, iI_and7, iI_and63, iI_shr3, iI_shr6, rd_I, lgc, z_bit, ob, Option.some.injEq, exists_eq_left', exists_eq_left, true_and, and_true, fqI, fqJ, eq_self, true_or, or_true, bP_0, bP_0i, npP, bP_1i, bP_b, not_true_eq_false, not_false_eq_true, false_implies, true_implies, implies_true, Classical.not_not, and_self]
  · show wb_X8_ropesReach_11 (wl_X8_ropesReach_11 post n) h tw (iI r) (iI (enc T r)) (la + 10) (iI _) post ↔ _
    unfold wb_X8_ropesReach_11
    simp (disch := omega) only [LB.o0 H, LB.p2 H, LB.o1 H, LB.l1 H, LB.p3 H, LB.o2 H, LB.l2 H, LB.p4 H, LB.o3 H, LB.l3 H, LB.p6 H, LB.o4 H, LB.l4 H, LB.p7 H, LB.o5 H, LB.l5 H, LB.p8 H, LB.o6 H, LB.l6 H, LB.p9 H, LB.o7 H, LB.l7 H, LB.p10 H, LB.o8 H, LB.l8 H, LB.p12 H, LB.o9 H, LB.l9 H, LB.p14 H, LB.o10 H, LB.p15 H, LB.o16 H, LB.q10_1 H, LB.o11 H, LB.l11 H, LB.q10_2 H, LB.o12 H, LB.l12 H, LB.q10_3 H, LB.o13 H, LB.l13 H, LB.q10_4 H, LB.o14 H, LB.l14 H, LB.q10_5 H, LB.o15 H, LB.l15 H, LB.q16_1 H, LB.o17 H, LB.l17 H, LB.q16_2 H, LB.o18 H, LB.l18 H, LB.q16_3 H, LB.o19 H, LB.l19 H, LB.q16_4 H, LB.o20 H, LB.l20 H, TB.o0 B, TB.p1 B, TB.o1 B, TB.l1 B, TB.p2 B, TB.o2 B, TB.l2 B, hp, fd0, fd1, fd2, fd3, fd4, fd5, fd6, fd7, fd8, fd9, fd10, fd11, fd12, fd13, fd14, fd15, fd16, fd17, fd18, fd19, fd20, fd21, fd22, fd23, fd24, fd25, fd26, fd27, fd28, fd29, fd30, fd31, fd32, fd33, fd34, fd35, fd36, fd37, fd38, fd39, fd40, fd41, fd42, fd43, fd44, fd45, fd46, fd47, fd48, fd49, fd50, fd51, fd52, LR.c0 L, LR.c1 L, LR.c5 L, LR.c11 L, LR.q0 L, LR.w0 L, LR.td L, LR.wi L, LR.hi L, LR.dr L, LR.po L, LR.ro L, LR.rp L, LR.rq L, LR.rh L, LR.mo L, LR.wk L, LR.wh L, LR.wt L, LR.ww L, -Int.reduceToNat, -Int32.reduceToNatClampNeg, il0, il1, il2, il3, il4, il5, il6, il7, il8, il9, il10, il11, il12, il13, il14, il15, il16, il17, il18, il19, il20, il21, il22, il23, il24, il25, il26, il27, il28, il29, il30, il31, il32, il35, il36, il38, il40, il42, il43, il44, il45, il46, il47, il48, il49, il50, il51, il52, il57, il59, il60, il63, il64, il75, il80, il95, il96, il97, il98, il99, il100, il120, il122, il123, il127, il128, il135, il167, il175, il225, il249, il250, il255, il256, il360, il370, il384, il600, il700, il740, il900, il940, il1024, il1600, il4800, il64000, il125000, il262143, il1000000000, iI_toInt, iI_add, iI_sub, iI_mul, iI_neg, iI_lt, iI_le, iI_eq, iI_n, iI_in, iI_div, iI_mod, iI_shm, iI_and1, iI_and7, iI_and63, iI_shr3, iI_shr6, rd_I, lgc, z_bit, ob, Option.some.injEq, exists_eq_left', exists_eq_left, true_and, and_true, fqI, fqJ, eq_self, true_or, or_true, bP_0, bP_0i, npP, bP_1i, bP_b, not_true_eq_false, not_false_eq_true, false_implies, true_implies, implies_true, Classical.not_not, and_self, cP, cP', ite_n, ite_T, ite_F, ite_t, ite_f]
theorem cand_n (ho : d < 3 * r ∨ 3 * r + 2 < d) : candT s t z r how d = t d := by
  unfold candT
  split
  · exact tr3_n ho
  · exact tr3_n ho
theorem cand_spot (hSp : Spot t z r) (hi : insT s (candT s t z r how) z r) (hZ : Z1 z r) (n0 : s 0 ≤ 8) (n1 : s 1 ≤ 8) : Spot (candT s t z r how) z r := by
  obtain ⟨⟨a1, a2⟩, ⟨b1, b2⟩, ⟨u1, u2⟩, hsq⟩ := hSp
  have hu : (0 ≤ candT s t z r how (3 * r + 2) ∧ candT s t z r how (3 * r + 2) ≤ 1) ∧ (z (3 * r) = z (3 * r + 1) → candT s t z r how (3 * r + 2) = 0) := by
    unfold candT
    split
    · unfold trnT
      rw [tr3_2]
      split
      · exact ⟨by omega, fun _ => rfl⟩
      · rename_i q; exact ⟨by omega, fun q2 => absurd q2 q⟩
    · unfold sldT
      rw [tr3_2]
      exact ⟨⟨u1, u2⟩, hsq⟩
  have w : 1 ≤ wdT (candT s t z r how) z r ∧ 1 ≤ hiT (candT s t z r how) z r := by
    obtain ⟨⟨z1, z2⟩, z3, z4⟩ := hZ
    unfold wdT hiT
    by_cases c : candT s t z r how (3 * r + 2) = 0
    · rw [c, show 3 * r + 0 = 3 * r by omega, show 3 * r + 1 - 0 = 3 * r + 1 by omega]
      omega
    · rw [show candT s t z r how (3 * r + 2) = 1 by omega, show 3 * r + 1 - 1 = 3 * r by omega]
      omega
  obtain ⟨i1, i2, i3, i4⟩ := hi
  exact ⟨⟨i1, by omega⟩, ⟨i2, by omega⟩, hu.1, hu.2⟩
theorem spot_c {t t' : Int → Int} {o : Int} (e0 : t' (3 * o) = t (3 * o)) (e1 : t' (3 * o + 1) = t (3 * o + 1)) (e2 : t' (3 * o + 2) = t (3 * o + 2)) : (Spot t' z o ↔ Spot t z o) ∧ enc t' o = enc t o ∧ wdT t' z o = wdT t z o ∧ hiT t' z o = hiT t z o ∧ (insT s t' z o ↔ insT s t z o) ∧ (∀ x y, onT t' z o x y ↔ onT t z o x y) ∧ (in8 t' z o ↔ in8 t z o) := by
  unfold Spot enc insT onT in8 wdT hiT
  rw [e0, e1, e2]
  exact ⟨Iff.rfl, rfl, rfl, rfl, Iff.rfl, fun _ _ => Iff.rfl, Iff.rfl⟩
theorem cand_c {o : Int} (ho : o ≠ r) : (Spot (candT s t z r how) z o ↔ Spot t z o) ∧ enc (candT s t z r how) o = enc t o ∧ wdT (candT s t z r how) z o = wdT t z o ∧ hiT (candT s t z r how) z o = hiT t z o ∧ (insT s (candT s t z r how) z o ↔ insT s t z o) ∧ (∀ x y, onT (candT s t z r how) z o x y ↔ onT t z o x y) ∧ (in8 (candT s t z r how) z o ↔ in8 t z o) :=
  spot_c (cand_n (by omega)) (cand_n (by omega)) (cand_n (by omega))
theorem c_attempt (H : LB h la) (L : LR h la s) (R : TR h tw la s t z) (hG : GS s) (e : EZ z s) (hV : VT s t z) (h1 : 0 ≤ r) (h2 : r < s 2) (h3 : 0 ≤ how) (h4 : how ≤ 4) (hh : 0 ≤ hr) (hh' : hr < 24) : wp_X8_attempt h tw (iI r) (iI how) (iI hr) post ↔ post h (iI (attT s t z r how hr)) := by
  have hG' := hG
  obtain ⟨⟨hS, n0, n1, n2, n3, n4, n5, hK, hW⟩, hD, hPo, hNe⟩ := hG
  obtain ⟨B, hp, hsp, hcv⟩ := R
  obtain ⟨hSp, hIn, hNo⟩ := hV r h1 h2
  have s2 := hS 2 (by omega) (by omega)
  have hZ := fun o o1 (o2 : o < s 2) => Z1.of e hD o1 o2 n2
  have hI8 := in8_of n0 n1 hIn
  have ff := fits_fl hD hS n0 n1 n2 e h1 h2 hh hh' hSp.P1 hIn (fun x y x1 x2 y1 y2 => hcv r h1 h2 x y x1 x2 y1 y2)
  unfold wp_X8_attempt
  simp (disch := omega) only [LB.o0 H, LB.p2 H, LB.o1 H, LB.l1 H, LB.p3 H, LB.o2 H, LB.l2 H, LB.p4 H, LB.o3 H, LB.l3 H, LB.p6 H, LB.o4 H, LB.l4 H, LB.p7 H, LB.o5 H, LB.l5 H, LB.p8 H, LB.o6 H, LB.l6 H, LB.p9 H, LB.o7 H, LB.l7 H, LB.p10 H, LB.o8 H, LB.l8 H, LB.p12 H, LB.o9 H, LB.l9 H, LB.p14 H, LB.o10 H, LB.p15 H, LB.o16 H, LB.q10_1 H, LB.o11 H, LB.l11 H, LB.q10_2 H, LB.o12 H, LB.l12 H, LB.q10_3 H, LB.o13 H, LB.l13 H, LB.q10_4 H, LB.o14 H, LB.l14 H, LB.q10_5 H, LB.o15 H, LB.l15 H, LB.q16_1 H, LB.o17 H, LB.l17 H, LB.q16_2 H, LB.o18 H, LB.l18 H, LB.q16_3 H, LB.o19 H, LB.l19 H, LB.q16_4 H, LB.o20 H, LB.l20 H, TB.o0 B, TB.p1 B, TB.o1 B, TB.l1 B, TB.p2 B, TB.o2 B, TB.l2 B, hp, fd0, fd1, fd2, fd3, fd4, fd5, fd6, fd7, fd8, fd9, fd10, fd11, fd12, fd13, fd14, fd15, fd16, fd17, fd18, fd19, fd20, fd21, fd22, fd23, fd24, fd25, fd26, fd27, fd28, fd29, fd30, fd31, fd32, fd33, fd34, fd35, fd36, fd37, fd38, fd39, fd40, fd41, fd42, fd43, fd44, fd45, fd46, fd47, fd48, fd49, fd50, fd51, fd52, LR.c0 L, LR.c1 L, LR.c5 L, LR.c11 L, LR.q0 L, LR.w0 L, LR.td L, LR.wi L, LR.hi L, LR.dr L, LR.po L, LR.ro L, LR.rp L, LR.rq L, LR.rh L, LR.mo L, LR.wk L, LR.wh L, LR.wt L, LR.ww L, -Int.reduceToNat, -Int32.reduceToNatClampNeg, il0, il1, il2, il3, il4, il5, il6, il7, il8, il9, il10, il11, il12, il13, il14, il15, il16, il17, il18, il19, il20, il21, il22, il23, il24, il25, il26, il27, il28, il29, il30, il31, il32, il35, il36, il38, il40, il42, il43, il44, il45, il46, il47, il48, il49, il50, il51, il52, il57, il59, il60, il63, il64, il75, il80, il95, il96, il97, il98, il99, il100, il120, il122, il123, il127, il128, il135, il167, il175, il225, il249, il250, il255, il256, il360, il370, il384, il600, il700, il740, il900, il940, il1024, il1600, il4800, il64000, il125000, il262143, il1000000000, iI_toInt, iI_add, iI_sub, iI_mul, iI_neg, iI_lt, iI_le, iI_eq, iI_n, iI_in, iI_div, iI_mod, iI_shm, iI_and1, iI_and7, iI_and63, iI_shr3, iI_shr6, rd_I, lgc, z_bit, ob, Option.some.injEq, exists_eq_left', exists_eq_left, true_and, and_true, fqI, fqJ, eq_self, true_or, or_true, bP_0, bP_0i, npP, bP_1i, bP_b, not_true_eq_false, not_false_eq_true, false_implies, true_implies, implies_true, Classical.not_not, and_self, cP, cP', ite_n, c_carries H L hS hD n2 h1 h2 hh hh', hsp]
  rw [ite_c ff]
  by_cases c1 : flT s t z r hr
  case neg =>
    rw [ite_f c1]
    have ew : whyT s t z r how hr = 1 := by unfold whyT; rw [ite_f c1]
    unfold attT
    rw [ew, ite_f (by omega)]
  rw [ite_t c1, c_landing H L hS hD hPo n0 n1 n2 n3 e h1 h2 hSp hI8 h3 h4]
  by_cases c2 : how = 4 ∧ polT s t z r = -1
  · have ew : whyT s t z r how hr = 2 := by unfold whyT; rw [ite_t c1, ite_t c2]
    have el : lndT s t z r how = -2 := by unfold lndT; rw [ite_t c2]
    unfold attT
    rw [ew, ite_f (c := (2 : Int) = 0) (by omega), el]
    simp (disch := omega) only [-Int.reduceToNat, -Int32.reduceToNatClampNeg, il0, il1, il2, il3, il4, il5, il6, il7, il8, il9, il10, il11, il12, il13, il14, il15, il16, il17, il18, il19, il20, il21, il22, il23, il24, il25, il26, il27, il28, il29, il30, il31, il32, il35, il36, il38, il40, il42, il43, il44, il45, il46, il47, il48, il49, il50, il51, il52, il57, il59, il60, il63, il64, il75, il80, il95, il96, il97, il98, il99, il100, il120, il122, il123, il127, il128, il135, il167, il175, il225, il249, il250, il255, il256, il360, il370, il384, il600, il700, il740, il900, il940, il1024, il1600, il4800, il64000, il125000, il262143, il1000000000, iI_toInt, iI_add, iI_sub, iI_mul, iI_neg, iI_lt, iI_le, iI_eq, iI_n, iI_in, iI_div, iI_mod, iI_shm, iI_and1, iI_and7, iI_and63, iI_shr3, iI_shr6, rd_I, lgc, z_bit, ob, Option.some.injEq, exists_eq_left', exists_eq_left, true_and, and_true, fqI, fqJ, eq_self, true_or, or_true, bP_0, bP_0i, npP, bP_1i, bP_b, not_true_eq_false, not_false_eq_true, false_implies, true_implies, implies_true, Classical.not_not, and_self, cP, cP', ite_n, ite_T, ite_F, ite_t, ite_f]
  have ew : whyT s t z r how hr = why2 s (candT s t z r how) z r hr := by unfold whyT; rw [ite_t c1, ite_f c2]
  by_cases c3 : insT s (candT s t z r how) z r
  case neg =>
    have el : lndT s t z r how = -3 := by unfold lndT; rw [ite_f c2, ite_f c3]
    have e2 : why2 s (candT s t z r how) z r hr = 3 := by unfold why2; rw [ite_f c3]
    unfold attT
    rw [ew, e2, ite_f (c := (3 : Int) = 0) (by omega), el]
    simp (disch := omega) only [-Int.reduceToNat, -Int32.reduceToNatClampNeg, il0, il1, il2, il3, il4, il5, il6, il7, il8, il9, il10, il11, il12, il13, il14, il15, il16, il17, il18, il19, il20, il21, il22, il23, il24, il25, il26, il27, il28, il29, il30, il31, il32, il35, il36, il38, il40, il42, il43, il44, il45, il46, il47, il48, il49, il50, il51, il52, il57, il59, il60, il63, il64, il75, il80, il95, il96, il97, il98, il99, il100, il120, il122, il123, il127, il128, il135, il167, il175, il225, il249, il250, il255, il256, il360, il370, il384, il600, il700, il740, il900, il940, il1024, il1600, il4800, il64000, il125000, il262143, il1000000000, iI_toInt, iI_add, iI_sub, iI_mul, iI_neg, iI_lt, iI_le, iI_eq, iI_n, iI_in, iI_div, iI_mod, iI_shm, iI_and1, iI_and7, iI_and63, iI_shr3, iI_shr6, rd_I, lgc, z_bit, ob, Option.some.injEq, exists_eq_left', exists_eq_left, true_and, and_true, fqI, fqJ, eq_self, true_or, or_true, bP_0, bP_0i, npP, bP_1i, bP_b, not_true_eq_false, not_false_eq_true, false_implies, true_implies, implies_true, Classical.not_not, and_self, cP, cP', ite_n, ite_T, ite_F, ite_t, ite_f]
  have el : lndT s t z r how = enc (candT s t z r how) r := by unfold lndT; rw [ite_f c2, ite_t c3]
  have hSc := cand_spot hSp c3 (hZ r h1 h2) n0 n1
  have en := enc_nums hSc
  have hI8c := in8_of n0 n1 c3
  obtain ⟨w1, w2⟩ := wsp_enc e h1 (show r < 8 by omega) hSc
  have wc := wd_Z hSc.P1 (hZ r h1 h2)
  have hbc : ∀ x y, 0 ≤ x → x < 8 → 0 ≤ y → y < 8 → (zb (cvZ (wdT (candT s t z r how) z r) (hiT (candT s t z r how) z r) (enc (candT s t z r how) r % 64)) (8 * y + x) ↔ onT (candT s t z r how) z r x y) := fun x y x1 x2 y1 y2 => zb_spot hSc hI8c (hZ r h1 h2) x1 x2 y1 y2
  have ff2 := fits_fl hD hS n0 n1 n2 e h1 h2 hh hh' hSc.P1 c3 hbc
  have hon : cvZ (wdT (candT s t z r how) z r) (hiT (candT s t z r how) z r) (enc (candT s t z r how) r % 64) &&& cbZ (aJ h (tw + 2)) r (s 2) = 0 ↔ ¬ onAnT s (candT s t z r how) z r := by
    rw [z_and0']
    constructor
    · rintro q ⟨o, o1, o2, o3, o4⟩
      have hVo := hV o o1 o2
      have cc := cand_c (s := s) (t := t) (z := z) (how := how) o3
      have wo := wd_Z hVo.1.P1 (hZ o o1 o2)
      have i8o := in8_of n0 n1 hVo.2.1
      have i8o' := cc.2.2.2.2.2.2.mpr i8o
      have oc := over_cells hI8c i8o'
      obtain ⟨⟨x, y, x1, x2, y1, y2, k1, k2⟩, -⟩ := oc.mp ⟨⟨o4.1.1, o4.1.2⟩, ⟨o4.2.1, o4.2.2⟩, by omega, by omega, by rw [cc.2.2.1]; omega, by rw [cc.2.2.2.1]; omega⟩
      refine q x y x1 x2 y1 y2 ⟨(hbc x y x1 x2 y1 y2).mpr k1, ?_⟩
      unfold cbZ
      rw [zb_cb]
      exact ⟨o, o1, by omega, o3, (hcv o o1 o2 x y x1 x2 y1 y2).mpr ((cc.2.2.2.2.2.1 x y).mp k2)⟩
    · rintro q x y x1 x2 y1 y2 ⟨k1, k2⟩
      unfold cbZ at k2
      rw [zb_cb] at k2
      obtain ⟨o, o1, o2, o3, o4⟩ := k2
      have o2' : o < s 2 := by omega
      have hVo := hV o o1 o2'
      have cc := cand_c (s := s) (t := t) (z := z) (how := how) o3
      have wo := wd_Z hVo.1.P1 (hZ o o1 o2')
      have i8o' := cc.2.2.2.2.2.2.mpr (in8_of n0 n1 hVo.2.1)
      have oc := over_cells hI8c i8o'
      have k1' := (hbc x y x1 x2 y1 y2).mp k1
      have k2' := (cc.2.2.2.2.2.1 x y).mpr ((hcv o o1 o2' x y x1 x2 y1 y2).mp o4)
      have := oc.mpr ⟨⟨x, y, x1, x2, y1, y2, k1', k2'⟩, by omega, by omega, by rw [cc.2.2.1]; omega, by rw [cc.2.2.2.1]; omega⟩
      exact q ⟨o, o1, o2', o3, this.1, this.2.1⟩
  unfold attT
  rw [el, ew]
  simp (disch := omega) only [LB.o0 H, LB.p2 H, LB.o1 H, LB.l1 H, LB.p3 H, LB.o2 H, LB.l2 H, LB.p4 H, LB.o3 H, LB.l3 H, LB.p6 H, LB.o4 H, LB.l4 H, LB.p7 H, LB.o5 H, LB.l5 H, LB.p8 H, LB.o6 H, LB.l6 H, LB.p9 H, LB.o7 H, LB.l7 H, LB.p10 H, LB.o8 H, LB.l8 H, LB.p12 H, LB.o9 H, LB.l9 H, LB.p14 H, LB.o10 H, LB.p15 H, LB.o16 H, LB.q10_1 H, LB.o11 H, LB.l11 H, LB.q10_2 H, LB.o12 H, LB.l12 H, LB.q10_3 H, LB.o13 H, LB.l13 H, LB.q10_4 H, LB.o14 H, LB.l14 H, LB.q10_5 H, LB.o15 H, LB.l15 H, LB.q16_1 H, LB.o17 H, LB.l17 H, LB.q16_2 H, LB.o18 H, LB.l18 H, LB.q16_3 H, LB.o19 H, LB.l19 H, LB.q16_4 H, LB.o20 H, LB.l20 H, TB.o0 B, TB.p1 B, TB.o1 B, TB.l1 B, TB.p2 B, TB.o2 B, TB.l2 B, hp, fd0, fd1, fd2, fd3, fd4, fd5, fd6, fd7, fd8, fd9, fd10, fd11, fd12, fd13, fd14, fd15, fd16, fd17, fd18, fd19, fd20, fd21, fd22, fd23, fd24, fd25, fd26, fd27, fd28, fd29, fd30, fd31, fd32, fd33, fd34, fd35, fd36, fd37, fd38, fd39, fd40, fd41, fd42, fd43, fd44, fd45, fd46, fd47, fd48, fd49, fd50, fd51, fd52, LR.c0 L, LR.c1 L, LR.c5 L, LR.c11 L, LR.q0 L, LR.w0 L, LR.td L, LR.wi L, LR.hi L, LR.dr L, LR.po L, LR.ro L, LR.rp L, LR.rq L, LR.rh L, LR.mo L, LR.wk L, LR.wh L, LR.wt L, LR.ww L, -Int.reduceToNat, -Int32.reduceToNatClampNeg, il0, il1, il2, il3, il4, il5, il6, il7, il8, il9, il10, il11, il12, il13, il14, il15, il16, il17, il18, il19, il20, il21, il22, il23, il24, il25, il26, il27, il28, il29, il30, il31, il32, il35, il36, il38, il40, il42, il43, il44, il45, il46, il47, il48, il49, il50, il51, il52, il57, il59, il60, il63, il64, il75, il80, il95, il96, il97, il98, il99, il100, il120, il122, il123, il127, il128, il135, il167, il175, il225, il249, il250, il255, il256, il360, il370, il384, il600, il700, il740, il900, il940, il1024, il1600, il4800, il64000, il125000, il262143, il1000000000, iI_toInt, iI_add, iI_sub, iI_mul, iI_neg, iI_lt, iI_le, iI_eq, iI_n, iI_in, iI_div, iI_mod, iI_shm, iI_and1, iI_and7, iI_and63, iI_shr3, iI_shr6, rd_I, lgc, z_bit, ob, Option.some.injEq, exists_eq_left', exists_eq_left, true_and, and_true, fqI, fqJ, eq_self, true_or, or_true, bP_0, bP_0i, npP, bP_1i, bP_b, not_true_eq_false, not_false_eq_true, false_implies, true_implies, implies_true, Classical.not_not, and_self, cP, cP', ite_n, ite_t, c_coverAt H L hD h1 h2 n2 en.1.1 en.1.2, w1, w2, c_coveredBut H L B hp ⟨s2.1, n2⟩, hon]
  unfold why2
  rw [ite_t c3]
  by_cases c4 : onAnT s (candT s t z r how) z r
  · rw [ite_t c4, ite_t c4, ite_f (by omega)]
  rw [ite_f c4, ite_f c4, c_carries H L hS hD n2 h1 h2 hh hh']
  simp (disch := omega) only [-Int.reduceToNat, -Int32.reduceToNatClampNeg, il0, il1, il2, il3, il4, il5, il6, il7, il8, il9, il10, il11, il12, il13, il14, il15, il16, il17, il18, il19, il20, il21, il22, il23, il24, il25, il26, il27, il28, il29, il30, il31, il32, il35, il36, il38, il40, il42, il43, il44, il45, il46, il47, il48, il49, il50, il51, il52, il57, il59, il60, il63, il64, il75, il80, il95, il96, il97, il98, il99, il100, il120, il122, il123, il127, il128, il135, il167, il175, il225, il249, il250, il255, il256, il360, il370, il384, il600, il700, il740, il900, il940, il1024, il1600, il4800, il64000, il125000, il262143, il1000000000, iI_toInt, iI_add, iI_sub, iI_mul, iI_neg, iI_lt, iI_le, iI_eq, iI_n, iI_in, iI_div, iI_mod, iI_shm, iI_and1, iI_and7, iI_and63, iI_shr3, iI_shr6, rd_I, lgc, z_bit, ob, Option.some.injEq, exists_eq_left', exists_eq_left, true_and, and_true, fqI, fqJ, eq_self, true_or, or_true, bP_0, bP_0i, npP, bP_1i, bP_b, not_true_eq_false, not_false_eq_true, false_implies, true_implies, implies_true, Classical.not_not, and_self, cP, cP', ite_n]
  rw [ite_c ff2]
  by_cases c5 : flT s (candT s t z r how) z r hr
  case neg => rw [ite_f c5, ite_f c5, ite_f (by omega)]
  rw [ite_t c5, ite_t c5, c_ropesReach H L B hp hG' e h1 h2 hSc (fun o o1 o2 o3 => by
    have cc := cand_c (s := s) (t := t) (z := z) (how := how) o3
    exact ⟨by rw [hsp o o1 o2, cc.2.1], cc.1.mpr (hV o o1 o2).1⟩)]
  simp (disch := omega) only [LB.o0 H, LB.p2 H, LB.o1 H, LB.l1 H, LB.p3 H, LB.o2 H, LB.l2 H, LB.p4 H, LB.o3 H, LB.l3 H, LB.p6 H, LB.o4 H, LB.l4 H, LB.p7 H, LB.o5 H, LB.l5 H, LB.p8 H, LB.o6 H, LB.l6 H, LB.p9 H, LB.o7 H, LB.l7 H, LB.p10 H, LB.o8 H, LB.l8 H, LB.p12 H, LB.o9 H, LB.l9 H, LB.p14 H, LB.o10 H, LB.p15 H, LB.o16 H, LB.q10_1 H, LB.o11 H, LB.l11 H, LB.q10_2 H, LB.o12 H, LB.l12 H, LB.q10_3 H, LB.o13 H, LB.l13 H, LB.q10_4 H, LB.o14 H, LB.l14 H, LB.q10_5 H, LB.o15 H, LB.l15 H, LB.q16_1 H, LB.o17 H, LB.l17 H, LB.q16_2 H, LB.o18 H, LB.l18 H, LB.q16_3 H, LB.o19 H, LB.l19 H, LB.q16_4 H, LB.o20 H, LB.l20 H, TB.o0 B, TB.p1 B, TB.o1 B, TB.l1 B, TB.p2 B, TB.o2 B, TB.l2 B, -Int.reduceToNat, -Int32.reduceToNatClampNeg, il0, il1, il2, il3, il4, il5, il6, il7, il8, il9, il10, il11, il12, il13, il14, il15, il16, il17, il18, il19, il20, il21, il22, il23, il24, il25, il26, il27, il28, il29, il30, il31, il32, il35, il36, il38, il40, il42, il43, il44, il45, il46, il47, il48, il49, il50, il51, il52, il57, il59, il60, il63, il64, il75, il80, il95, il96, il97, il98, il99, il100, il120, il122, il123, il127, il128, il135, il167, il175, il225, il249, il250, il255, il256, il360, il370, il384, il600, il700, il740, il900, il940, il1024, il1600, il4800, il64000, il125000, il262143, il1000000000, iI_toInt, iI_add, iI_sub, iI_mul, iI_neg, iI_lt, iI_le, iI_eq, iI_n, iI_in, iI_div, iI_mod, iI_shm, iI_and1, iI_and7, iI_and63, iI_shr3, iI_shr6, rd_I, lgc, z_bit, ob, Option.some.injEq, exists_eq_left', exists_eq_left, true_and, and_true, fqI, fqJ, eq_self, true_or, or_true, bP_0, bP_0i, npP, bP_1i, bP_b, not_true_eq_false, not_false_eq_true, false_implies, true_implies, implies_true, Classical.not_not, and_self, cP, cP', ite_n]
  by_cases c6 : farT s (candT s t z r how) z r
  · rw [ite_t c6, ite_t c6, ite_f (by omega)]
  · rw [ite_f c6, ite_f c6, ite_t rfl]
end CATT
