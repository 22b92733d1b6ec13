/-! more calls that only look -/
theorem sb_nn {x : Int32} (h : ¬ sb x 31) : iI 0 ≤ x := by
  rw [Int32.le_iff_toInt_le, iI_toInt (by omega) (by omega)]
  unfold sb at h
  have e : x.toBitVec.msb = x.toBitVec.getLsbD 31 := BitVec.msb_eq_getLsbD_last x.toBitVec
  have e2 : x.toBitVec.msb = false := by
    rw [e]
    cases q : x.toBitVec.getLsbD 31
    · rfl
    · exact absurd q h
  rw [BitVec.msb_eq_toInt] at e2
  have : ¬ x.toBitVec.toInt < 0 := of_decide_eq_false e2
  show 0 ≤ x.toBitVec.toInt
  omega
theorem nn_bits (P : Int → Prop) {d : Nat} (hd : d ≤ 31) : iI 0 ≤ foldI (bitsF P) d 0 (iI 0) := sb_nn fun q => by
  have := (sb_bits (k := 31) (by omega) (by omega) d hd).mp q
  omega
def unT (s t z : Int → Int) (r : Int) : Prop := ∃ x y x' y', onT t z r x y ∧ onT t z r x' y' ∧ s (11 + 8 * y + x) + 1 < s (11 + 8 * y' + x')
section LOOKS
variable {h h1 h2 : AH} {i la fr qa ac : Nat} {post : AH → Int32 → Prop} {a b c d r x y n sp sq w hh u hr how one : Int}
theorem unev_un {s t z : Int → Int} {zz : Int64} (hI : in8 t z r) (hz : ∀ x y, 0 ≤ x → x < 8 → 0 ≤ y → y < 8 → (zb zz (8 * y + x) ↔ onT t z r x y)) : unev s zz ↔ unT s t z r := by
  obtain ⟨i1, i2, i3, i4⟩ := hI
  constructor
  · rintro ⟨x, y, x', y', ⟨a1, a2, a3, a4, a5⟩, ⟨b1, b2, b3, b4, b5⟩, hlt⟩
    exact ⟨x, y, x', y', (hz x y a1 a2 a3 a4).mp a5, (hz x' y' b1 b2 b3 b4).mp b5, hlt⟩
  · rintro ⟨x, y, x', y', p, q, hlt⟩
    have p' := p
    have q' := q
    obtain ⟨a1, a2, a3, a4⟩ := p'
    obtain ⟨b1, b2, b3, b4⟩ := q'
    exact ⟨x, y, x', y', ⟨by omega, by omega, by omega, by omega, (hz x y (by omega) (by omega) (by omega) (by omega)).mpr p⟩, ⟨by omega, by omega, by omega, by omega, (hz x' y' (by omega) (by omega) (by omega) (by omega)).mpr q⟩, hlt⟩
theorem cX_breaks (I : Inv h i la fr qa ac) (hh : -2147483648 ≤ hr) (hh' : hr < 2147483648)
    (k : post h (iteP (0 ≤ hr ∧ hr < 24) (foldI (bitsF (fun r => ¬ flT (rd h 94) (tS (rd h 94)) (zC (rd h 94)) r hr ∧ unT (rd h 94) (tS (rd h 94)) (zC (rd h 94)) r)) (rd h 94 2).toNat 0 (iI 0)) (iI (-1)))) : wp_X11_breaks h 0 (iI hr) post := by
  obtain ⟨S, M, hl, hp, H, L, T, hG, hZ⟩ := I.core
  have bd := hG.bd
  obtain ⟨B, hp0, hsp, hcv⟩ := T
  unfold wp_X11_breaks
  refine ⟨S.o0, cX_aground I hh hh' ?_⟩
  by_cases c1 : 0 ≤ hr ∧ hr < 24
  case neg =>
    rw [ite_f c1]; rw [ite_f c1] at k
    simp (disch := omega) only [-Int.reduceToNat, -Int32.reduceToNatClampNeg, il0, il1, il2, il3, il4, il5, il6, il7, il8, il9, il10, il11, il12, il13, il14, il15, il16, il17, il18, il19, il20, il21, il22, il23, il24, il25, il26, il27, il28, il29, il30, il31, il32, il35, il36, il38, il40, il42, il43, il44, il45, il46, il47, il48, il49, il50, il51, il52, il57, il59, il60, il63, il64, il75, il80, il95, il96, il97, il98, il99, il100, il120, il122, il123, il127, il128, il135, il167, il175, il225, il249, il250, il255, il256, il360, il370, il384, il600, il700, il740, il900, il940, il1024, il1600, il4800, il64000, il125000, il262143, il1000000000, iI_toInt, iI_add, iI_sub, iI_mul, iI_neg, iI_lt, iI_le, iI_eq, iI_n, iI_in, iI_div, iI_mod, iI_shm, iI_and1, iI_and7, iI_and63, iI_shr3, iI_shr6, rd_I, ob, Option.some.injEq, exists_eq_left', exists_eq_left, true_and, and_true, fqI, fqJ, eq_self, true_or, or_true, bP_0, bP_0i, npP, bP_1i, bP_b, not_true_eq_false, not_false_eq_true, false_implies, true_implies, implies_true, Classical.not_not, and_self, cP, cP', ite_n, ite_T, ite_F, ite_t, ite_f]
    exact k
  rw [ite_t c1]
  rw [ite_t c1] at k
  have nn := nn_bits (fun r => ¬ flT (rd h 94) (tS (rd h 94)) (zC (rd h 94)) r hr) (d := (rd h 94 2).toNat) (by omega)
  refine ⟨fun _ => ?_, fun q => absurd nn q⟩
  generalize hB : foldI (bitsF (fun r => ¬ flT (rd h 94) (tS (rd h 94)) (zC (rd h 94)) r hr)) (rd h 94 2).toNat 0 (iI 0) = BB
  have key := lp_fold (W := fun n (b : Int32) r => wl_X11_breaks_17 post n h 0 BB b (iI r)) (E := fun b => post h b) (f := bitsF (fun r => ¬ flT (rd h 94) (tS (rd h 94)) (zC (rd h 94)) r hr ∧ unT (rd h 94) (tS (rd h 94)) (zC (rd h 94)) r)) (lo := 0) (hi := rd h 94 2) (fun _ _ => True) (by omega) (fun b i q => q) (fun n b r r1 r2 _ => ?_) (fun _ _ _ _ _ => trivial) (fun n b _ => ?_) (iI 0) trivial
  · rw [Int.sub_zero] at key
    exact key.mpr k
  · show wb_X11_breaks_17 (wl_X11_breaks_17 post n) h 0 BB b (iI r) post ↔ _
    unfold wb_X11_breaks_17 wb_X11_breaks_74 bitsF
    have sbb : sb BB r ↔ ¬ flT (rd h 94) (tS (rd h 94)) (zC (rd h 94)) r hr := by
      rw [← hB, sb_bits r1 (by omega) _ (by omega)]
      exact ⟨fun q => q.2, fun q => ⟨by omega, q⟩⟩
    have i8 := hG.i8 r1 r2
    have hun := unev_un (s := rd h 94) i8 (hcv r r1 r2)
    have hin := (hG.vt r r1 r2).2.1
    have hzz : ∀ x y, 0 ≤ x → x < 8 → 0 ≤ y → y < 8 → zb (aJ h 55 r.toNat) (8 * y + x) → x < rd h 94 0 ∧ y < rd h 94 1 := by
      intro x y x1 x2 y1 y2 q
      have := (hcv r r1 r2 x y x1 x2 y1 y2).mp q
      obtain ⟨p1, p2, p3, p4⟩ := this
      obtain ⟨j1, j2, j3, j4⟩ := hin
      omega
    simp (disch := omega) only [CSh.o0 S, CSh.o1 S, CSh.o2 S, CSh.o3 S, CSh.o26 S, CSh.o27 S, CSh.o29 S, CSh.o30 S, CSh.o31 S, CSh.o56 S, CSh.o57 S, CSh.o58 S, CSh.o62 S, CSh.o66 S, CSh.o70 S, CSh.o74 S, CSh.o75 S, CSh.o77 S, CSh.o79 S, CSh.o80 S, CSh.o81 S, CSh.o82 S, CSh.o83 S, CSh.o84 S, CSh.o85 S, CSh.o86 S, CSh.o87 S, CSh.o88 S, CSh.o53 S, CSh.o54 S, CSh.o55 S, CSh.o59 S, CSh.o60 S, CSh.o61 S, CSh.o63 S, CSh.o64 S, CSh.o65 S, CSh.o67 S, CSh.o68 S, CSh.o69 S, CSh.o71 S, CSh.o72 S, CSh.o73 S, CSh.o89 S, CSh.o90 S, CSh.o91 S, CSh.l1 S, CSh.l3 S, CSh.l27 S, CSh.l29 S, CSh.l30 S, CSh.l56 S, CSh.l57 S, CSh.l58 S, CSh.l75 S, CSh.l77 S, CSh.l79 S, CSh.l81 S, CSh.l82 S, CSh.l83 S, CSh.l84 S, CSh.l85 S, CSh.l86 S, CSh.l87 S, CSh.l88 S, CSh.l54 S, CSh.l55 S, CSh.l60 S, CSh.l61 S, CSh.l64 S, CSh.l65 S, CSh.l68 S, CSh.l69 S, CSh.l72 S, CSh.l73 S, CSh.l90 S, CSh.l91 S, CSh.p0_0 S, CSh.p0_3 S, CSh.p0_4 S, CSh.p0_5 S, CSh.p0_6 S, CSh.p0_7 S, CSh.p0_8 S, CSh.p0_9 S, CSh.p0_10 S, CSh.p0_14 S, CSh.p2_0 S, CSh.p26_0 S, CSh.p26_13 S, CSh.p26_14 S, CSh.p31_1 S, CSh.p31_3 S, CSh.p31_4 S, CSh.p62_0 S, CSh.p66_0 S, CSh.p70_0 S, CSh.p74_0 S, CSh.p74_1 S, CSh.p74_6 S, CSh.p74_7 S, CSh.p74_10 S, CSh.p80_1 S, CSh.p80_2 S, CSh.p80_3 S, CSh.p80_4 S, CSh.p80_5 S, CSh.p80_6 S, CSh.p80_7 S, CSh.p80_8 S, CSh.p53_1 S, CSh.p53_2 S, CSh.p59_1 S, CSh.p59_2 S, CSh.p63_1 S, CSh.p63_2 S, CSh.p67_1 S, CSh.p67_2 S, CSh.p71_1 S, CSh.p71_2 S, CSh.p89_1 S, CSh.p89_2 S, hp, LB.o0 H, LB.p2 H, LB.o1 H, LB.l1 H, LB.p3 H, LB.o2 H, LB.l2 H, LB.p4 H, LB.o3 H, LB.l3 H, LB.p6 H, LB.o4 H, LB.l4 H, LB.p7 H, LB.o5 H, LB.l5 H, LB.p8 H, LB.o6 H, LB.l6 H, LB.p9 H, LB.o7 H, LB.l7 H, LB.p10 H, LB.o8 H, LB.l8 H, LB.p12 H, LB.o9 H, LB.l9 H, LB.p14 H, LB.o10 H, LB.p15 H, LB.o16 H, LB.q10_1 H, LB.o11 H, LB.l11 H, LB.q10_2 H, LB.o12 H, LB.l12 H, LB.q10_3 H, LB.o13 H, LB.l13 H, LB.q10_4 H, LB.o14 H, LB.l14 H, LB.q10_5 H, LB.o15 H, LB.l15 H, LB.q16_1 H, LB.o17 H, LB.l17 H, LB.q16_2 H, LB.o18 H, LB.l18 H, LB.q16_3 H, LB.o19 H, LB.l19 H, LB.q16_4 H, LB.o20 H, LB.l20 H, fd0, fd1, fd2, fd3, fd4, fd5, fd6, fd7, fd8, fd9, fd10, fd11, fd12, fd13, fd14, fd15, fd16, fd17, fd18, fd19, fd20, fd21, fd22, fd23, fd24, fd25, fd26, fd27, fd28, fd29, fd30, fd31, fd32, fd33, fd34, fd35, fd36, fd37, fd38, fd39, fd40, fd41, fd42, fd43, fd44, fd45, fd46, fd47, fd48, fd49, fd50, fd51, fd52, LR.c5 L, -Int.reduceToNat, -Int32.reduceToNatClampNeg, il0, il1, il2, il3, il4, il5, il6, il7, il8, il9, il10, il11, il12, il13, il14, il15, il16, il17, il18, il19, il20, il21, il22, il23, il24, il25, il26, il27, il28, il29, il30, il31, il32, il35, il36, il38, il40, il42, il43, il44, il45, il46, il47, il48, il49, il50, il51, il52, il57, il59, il60, il63, il64, il75, il80, il95, il96, il97, il98, il99, il100, il120, il122, il123, il127, il128, il135, il167, il175, il225, il249, il250, il255, il256, il360, il370, il384, il600, il700, il740, il900, il940, il1024, il1600, il4800, il64000, il125000, il262143, il1000000000, iI_toInt, iI_add, iI_sub, iI_mul, iI_neg, iI_lt, iI_le, iI_eq, iI_n, iI_in, iI_div, iI_mod, iI_shm, iI_and1, iI_and7, iI_and63, iI_shr3, iI_shr6, rd_I, lgc, z_bit, ob, Option.some.injEq, exists_eq_left', exists_eq_left, true_and, and_true, fqI, fqJ, eq_self, true_or, or_true, bP_0, bP_0i, npP, bP_1i, bP_b, not_true_eq_false, not_false_eq_true, false_implies, true_implies, implies_true, Classical.not_not, and_self, cP, cP', ite_n, ite_f, sb_0, c_isUneven H L hG.sb hG.sd hzz, sbb]
    rw [ite_c hun]
    by_cases c2 : flT (rd h 94) (tS (rd h 94)) (zC (rd h 94)) r hr
    · rw [ite_t c2, ite_f (fun q => q.1 c2)]
    · rw [ite_f c2]
      by_cases c3 : unT (rd h 94) (tS (rd h 94)) (zC (rd h 94)) r
      · rw [ite_t c3, ite_t ⟨c2, c3⟩]
      · rw [ite_f c3, ite_f (fun q => c3 q.2)]
  · show wb_X11_breaks_17 (wl_X11_breaks_17 post n) h 0 BB b (iI _) post ↔ _
    unfold wb_X11_breaks_17
    simp (disch := omega) only [CSh.o0 S, CSh.o1 S, CSh.o2 S, CSh.o3 S, CSh.o26 S, CSh.o27 S, CSh.o29 S, CSh.o30 S, CSh.o31 S, CSh.o56 S, CSh.o57 S, CSh.o58 S, CSh.o62 S, CSh.o66 S, CSh.o70 S, CSh.o74 S, CSh.o75 S, CSh.o77 S, CSh.o79 S, CSh.o80 S, CSh.o81 S, CSh.o82 S, CSh.o83 S, CSh.o84 S, CSh.o85 S, CSh.o86 S, CSh.o87 S, CSh.o88 S, CSh.o53 S, CSh.o54 S, CSh.o55 S, CSh.o59 S, CSh.o60 S, CSh.o61 S, CSh.o63 S, CSh.o64 S, CSh.o65 S, CSh.o67 S, CSh.o68 S, CSh.o69 S, CSh.o71 S, CSh.o72 S, CSh.o73 S, CSh.o89 S, CSh.o90 S, CSh.o91 S, CSh.l1 S, CSh.l3 S, CSh.l27 S, CSh.l29 S, CSh.l30 S, CSh.l56 S, CSh.l57 S, CSh.l58 S, CSh.l75 S, CSh.l77 S, CSh.l79 S, CSh.l81 S, CSh.l82 S, CSh.l83 S, CSh.l84 S, CSh.l85 S, CSh.l86 S, CSh.l87 S, CSh.l88 S, CSh.l54 S, CSh.l55 S, CSh.l60 S, CSh.l61 S, CSh.l64 S, CSh.l65 S, CSh.l68 S, CSh.l69 S, CSh.l72 S, CSh.l73 S, CSh.l90 S, CSh.l91 S, CSh.p0_0 S, CSh.p0_3 S, CSh.p0_4 S, CSh.p0_5 S, CSh.p0_6 S, CSh.p0_7 S, CSh.p0_8 S, CSh.p0_9 S, CSh.p0_10 S, CSh.p0_14 S, CSh.p2_0 S, CSh.p26_0 S, CSh.p26_13 S, CSh.p26_14 S, CSh.p31_1 S, CSh.p31_3 S, CSh.p31_4 S, CSh.p62_0 S, CSh.p66_0 S, CSh.p70_0 S, CSh.p74_0 S, CSh.p74_1 S, CSh.p74_6 S, CSh.p74_7 S, CSh.p74_10 S, CSh.p80_1 S, CSh.p80_2 S, CSh.p80_3 S, CSh.p80_4 S, CSh.p80_5 S, CSh.p80_6 S, CSh.p80_7 S, CSh.p80_8 S, CSh.p53_1 S, CSh.p53_2 S, CSh.p59_1 S, CSh.p59_2 S, CSh.p63_1 S, CSh.p63_2 S, CSh.p67_1 S, CSh.p67_2 S, CSh.p71_1 S, CSh.p71_2 S, CSh.p89_1 S, CSh.p89_2 S, hp, LB.o0 H, LB.p2 H, LB.o1 H, LB.l1 H, LB.p3 H, LB.o2 H, LB.l2 H, LB.p4 H, LB.o3 H, LB.l3 H, LB.p6 H, LB.o4 H, LB.l4 H, LB.p7 H, LB.o5 H, LB.l5 H, LB.p8 H, LB.o6 H, LB.l6 H, LB.p9 H, LB.o7 H, LB.l7 H, LB.p10 H, LB.o8 H, LB.l8 H, LB.p12 H, LB.o9 H, LB.l9 H, LB.p14 H, LB.o10 H, LB.p15 H, LB.o16 H, LB.q10_1 H, LB.o11 H, LB.l11 H, LB.q10_2 H, LB.o12 H, LB.l12 H, LB.q10_3 H, LB.o13 H, LB.l13 H, LB.q10_4 H, LB.o14 H, LB.l14 H, LB.q10_5 H, LB.o15 H, LB.l15 H, LB.q16_1 H, LB.o17 H, LB.l17 H, LB.q16_2 H, LB.o18 H, LB.l18 H, LB.q16_3 H, LB.o19 H, LB.l19 H, LB.q16_4 H, LB.o20 H, LB.l20 H, fd0, fd1, fd2, fd3, fd4, fd5, fd6, fd7, fd8, fd9, fd10, fd11, fd12, fd13, fd14, fd15, fd16, fd17, fd18, fd19, fd20, fd21, fd22, fd23, fd24, fd25, fd26, fd27, fd28, fd29, fd30, fd31, fd32, fd33, fd34, fd35, fd36, fd37, fd38, fd39, fd40, fd41, fd42, fd43, fd44, fd45, fd46, fd47, fd48, fd49, fd50, fd51, fd52, LR.c5 L, -Int.reduceToNat, -Int32.reduceToNatClampNeg, il0, il1, il2, il3, il4, il5, il6, il7, il8, il9, il10, il11, il12, il13, il14, il15, il16, il17, il18, il19, il20, il21, il22, il23, il24, il25, il26, il27, il28, il29, il30, il31, il32, il35, il36, il38, il40, il42, il43, il44, il45, il46, il47, il48, il49, il50, il51, il52, il57, il59, il60, il63, il64, il75, il80, il95, il96, il97, il98, il99, il100, il120, il122, il123, il127, il128, il135, il167, il175, il225, il249, il250, il255, il256, il360, il370, il384, il600, il700, il740, il900, il940, il1024, il1600, il4800, il64000, il125000, il262143, il1000000000, iI_toInt, iI_add, iI_sub, iI_mul, iI_neg, iI_lt, iI_le, iI_eq, iI_n, iI_in, iI_div, iI_mod, iI_shm, iI_and1, iI_and7, iI_and63, iI_shr3, iI_shr6, rd_I, lgc, z_bit, ob, Option.some.injEq, exists_eq_left', exists_eq_left, true_and, and_true, fqI, fqJ, eq_self, true_or, or_true, bP_0, bP_0i, npP, bP_1i, bP_b, not_true_eq_false, not_false_eq_true, false_implies, true_implies, implies_true, Classical.not_not, and_self, cP, cP', ite_n, ite_T, ite_F, ite_t, ite_f]
/-- low and top of what was gone through: the cells of a set -/
def lowI (s : Int → Int) (C : Int → Int → Prop) (v : Int) : Prop := v ≤ 9 ∧ (∀ x y, C x y → v ≤ s (11 + 8 * y + x)) ∧ (v = 9 ∨ ∃ x y, C x y ∧ v = s (11 + 8 * y + x))
def topI (s : Int → Int) (C : Int → Int → Prop) (v : Int) : Prop := 0 ≤ v ∧ (∀ x y, C x y → s (11 + 8 * y + x) ≤ v) ∧ (v = 0 ∨ ∃ x y, C x y ∧ v = s (11 + 8 * y + x))
theorem low_add {s : Int → Int} {C C' : Int → Int → Prop} {v g : Int} (hl : lowI s C v) (hC : ∀ x' y', C' x' y' ↔ C x' y' ∨ (x' = x ∧ y' = y)) (hg : s (11 + 8 * y + x) = g) : lowI s C' (if g < v then g else v) := by
  obtain ⟨l1, l2, l3⟩ := hl
  by_cases c : g < v
  · rw [if_pos c]
    refine ⟨by omega, fun x' y' q => ?_, Or.inr ⟨x, y, (hC x y).mpr (Or.inr ⟨rfl, rfl⟩), hg.symm⟩⟩
    rcases (hC x' y').mp q with q | ⟨rfl, rfl⟩
    · have := l2 x' y' q; omega
    · omega
  · rw [if_neg c]
    refine ⟨l1, fun x' y' q => ?_, ?_⟩
    · rcases (hC x' y').mp q with q | ⟨rfl, rfl⟩
      · exact l2 x' y' q
      · omega
    · rcases l3 with l3 | ⟨x', y', p, q⟩
      · exact Or.inl l3
      · exact Or.inr ⟨x', y', (hC x' y').mpr (Or.inl p), q⟩
theorem top_add {s : Int → Int} {C C' : Int → Int → Prop} {v g : Int} (hl : topI s C v) (hC : ∀ x' y', C' x' y' ↔ C x' y' ∨ (x' = x ∧ y' = y)) (hg : s (11 + 8 * y + x) = g) : topI s C' (if v < g then g else v) := by
  obtain ⟨l1, l2, l3⟩ := hl
  by_cases c : v < g
  · rw [if_pos c]
    refine ⟨by omega, fun x' y' q => ?_, Or.inr ⟨x, y, (hC x y).mpr (Or.inr ⟨rfl, rfl⟩), hg.symm⟩⟩
    rcases (hC x' y').mp q with q | ⟨rfl, rfl⟩
    · have := l2 x' y' q; omega
    · omega
  · rw [if_neg c]
    refine ⟨l1, fun x' y' q => ?_, ?_⟩
    · rcases (hC x' y').mp q with q | ⟨rfl, rfl⟩
      · exact l2 x' y' q
      · omega
    · rcases l3 with l3 | ⟨x', y', p, q⟩
      · exact Or.inl l3
      · exact Or.inr ⟨x', y', (hC x' y').mpr (Or.inl p), q⟩
theorem low_same {s : Int → Int} {C C' : Int → Int → Prop} {v : Int} (hl : lowI s C v) (hC : ∀ x' y', C' x' y' ↔ C x' y') : lowI s C' v := by
  have e : C' = C := funext fun x => funext fun y => propext (hC x y)
  rw [e]; exact hl
theorem top_same {s : Int → Int} {C C' : Int → Int → Prop} {v : Int} (hl : topI s C v) (hC : ∀ x' y', C' x' y' ↔ C x' y') : topI s C' v := by
  have e : C' = C := funext fun x => funext fun y => propext (hC x y)
  rw [e]; exact hl
/-- cells of r ahead of (x, y), row by row -/
def seenC (t z : Int → Int) (r x y : Int) (x' y' : Int) : Prop := onT t z r x' y' ∧ (y' < y ∨ (y' = y ∧ x' < x))
theorem mX_breaks (I : Inv h i la fr qa ac) (hh : -2147483648 ≤ hr) (hh' : hr < 2147483648)
    (k : ∀ h', Qt h h' → post h' (iteP (0 ≤ hr ∧ hr < 24) (foldI (bitsF (fun r => ¬ flT (rd h 94) (tS (rd h 94)) (zC (rd h 94)) r hr ∧ unT (rd h 94) (tS (rd h 94)) (zC (rd h 94)) r)) (rd h 94 2).toNat 0 (iI 0)) (iI (-1)))) : wp_X12_breaks h 92 (iI hr) post := by
  unfold wp_X12_breaks
  refine ⟨I.m.o0, fun h1 e1 => ?_⟩
  obtain ⟨I1, q1, es, -⟩ := I.thr e1
  rw [← es] at k
  simp (disch := omega) only [-Int.reduceToNat, -Int32.reduceToNatClampNeg, il0, il1, il2, il3, il4, il5, il6, il7, il8, il9, il10, il11, il12, il13, il14, il15, il16, il17, il18, il19, il20, il21, il22, il23, il24, il25, il26, il27, il28, il29, il30, il31, il32, il35, il36, il38, il40, il42, il43, il44, il45, il46, il47, il48, il49, il50, il51, il52, il57, il59, il60, il63, il64, il75, il80, il95, il96, il97, il98, il99, il100, il120, il122, il123, il127, il128, il135, il167, il175, il225, il249, il250, il255, il256, il360, il370, il384, il600, il700, il740, il900, il940, il1024, il1600, il4800, il64000, il125000, il262143, il1000000000, iI_toInt, iI_add, iI_sub, iI_mul, iI_neg, iI_lt, iI_le, iI_eq, iI_n, iI_in, iI_div, iI_mod, iI_shm, iI_and1, iI_and7, iI_and63, iI_shr3, iI_shr6, rd_I, ob, Option.some.injEq, exists_eq_left', exists_eq_left, true_and, and_true, fqI, fqJ, eq_self, true_or, or_true, bP_0, bP_0i, npP, bP_1i, bP_b, not_true_eq_false, not_false_eq_true, false_implies, true_implies, implies_true, Classical.not_not, and_self, cP, cP', ite_n, m_isHour]
  by_cases c1 : 0 ≤ hr ∧ hr < 24
  case neg => rw [ite_f c1]; rw [ite_f c1] at k; exact k h1 q1
  rw [ite_t c1]
  rw [ite_t c1] at k
  refine ⟨I1.m.o0, ?_⟩
  refine m_as I1 fun h2 q2 I2 e94 e99 e100 => ?_
  have M := I2.m
  have hG := I2.ga
  have bd := hG.bd
  rw [← e94] at k e99 e100
  have k' := k h2 (q1.trans q2)
  generalize hs : rd h2 94 = s at hG bd e99 e100 k'
  refine lf_for (W := fun n (b : Int32) r => wl_X12_breaks_22 post n h2 92 (iI hr) b (iI r)) (lo := 0) (hi := s 2) (fun r b => b = foldI (bitsF (fun r => ¬ flT s (tS s) (zC s) r hr ∧ unT s (tS s) (zC s) r)) r.toNat 0 (iI 0)) (by omega) ?_ ?_ (iI 0) rfl
  · intro n b r r1 r2 hb kk
    have RB := hG.rb r1 r2
    have I8 := hG.i8 r1 r2
    have hin := (hG.vt r r1 r2).2.1
    have hw := wd_Z (hG.vt r r1 r2).1.P1 (hG.z1 r1 r2)
    obtain ⟨j1, j2, j3, j4⟩ := hin
    show wb_X12_breaks_22 (wl_X12_breaks_22 post n) h2 92 (iI hr) b (iI r) post
    unfold wb_X12_breaks_22
    simp (disch := omega) only [MSh.o0 M, MSh.p1 M, MSh.o1 M, MSh.l1 M, MSh.p6 M, MSh.o2 M, MSh.l2 M, MSh.p7 M, MSh.o3 M, MSh.l3 M, MSh.p8 M, MSh.o4 M, MSh.l4 M, MSh.p9 M, MSh.o5 M, MSh.l5 M, MSh.p10 M, MSh.o6 M, MSh.l6 M, MSh.p24 M, MSh.o7 M, MSh.l7 M, MSh.p25 M, MSh.o8 M, MSh.l8 M, MSh.p26 M, MSh.o9 M, MSh.l9 M, MSh.p32 M, MSh.o10 M, MSh.l10 M, MSh.p33 M, MSh.o11 M, MSh.l11 M, MSh.p35 M, MSh.o12 M, MSh.l12 M, MSh.p36 M, MSh.o13 M, MSh.l13 M, MSh.p37 M, MSh.o14 M, MSh.l14 M, MSh.p38 M, MSh.o15 M, MSh.l15 M, MSh.p39 M, MSh.o16 M, MSh.l16 M, MSh.p42 M, MSh.o17 M, MSh.l17 M, MSh.p43 M, MSh.o18 M, MSh.l18 M, MSh.p44 M, MSh.o19 M, MSh.l19 M, MSh.p45 M, MSh.o20 M, MSh.l20 M, MSh.p46 M, MSh.o21 M, MSh.l21 M, MSh.p47 M, MSh.o22 M, MSh.l22 M, MSh.p50 M, MSh.o23 M, MSh.l23 M, MSh.p51 M, MSh.o24 M, MSh.l24 M, MSh.p52 M, MSh.o25 M, MSh.l25 M, -Int.reduceToNat, -Int32.reduceToNatClampNeg, il0, il1, il2, il3, il4, il5, il6, il7, il8, il9, il10, il11, il12, il13, il14, il15, il16, il17, il18, il19, il20, il21, il22, il23, il24, il25, il26, il27, il28, il29, il30, il31, il32, il35, il36, il38, il40, il42, il43, il44, il45, il46, il47, il48, il49, il50, il51, il52, il57, il59, il60, il63, il64, il75, il80, il95, il96, il97, il98, il99, il100, il120, il122, il123, il127, il128, il135, il167, il175, il225, il249, il250, il255, il256, il360, il370, il384, il600, il700, il740, il900, il940, il1024, il1600, il4800, il64000, il125000, il262143, il1000000000, iI_toInt, iI_add, iI_sub, iI_mul, iI_neg, iI_lt, iI_le, iI_eq, iI_n, iI_in, iI_div, iI_mod, iI_shm, iI_and1, iI_and7, iI_and63, iI_shr3, iI_shr6, rd_I, ob, Option.some.injEq, exists_eq_left', exists_eq_left, true_and, and_true, fqI, fqJ, eq_self, true_or, or_true, bP_0, bP_0i, npP, bP_1i, bP_b, not_true_eq_false, not_false_eq_true, false_implies, true_implies, implies_true, Classical.not_not, and_self, cP, cP', ite_n, ite_f, hs]
    refine lf_for (W := fun m (v : Int × Int) y => wl_X12_breaks_42 (wl_X12_breaks_22 post n) post m h2 92 (iI hr) b (iI r) (iI v.1) (iI v.2) (iI y)) (lo := 0) (hi := s 1) (fun y v => (0 ≤ v.1 ∧ v.2 ≤ 99) ∧ lowI s (seenC (tS s) (zC s) r 0 y) v.1 ∧ topI s (seenC (tS s) (zC s) r 0 y) v.2) (by omega) ?_ ?_ (9, 0) ⟨by omega, ⟨by omega, fun x y q => ?_, Or.inl rfl⟩, ⟨by omega, fun x y q => ?_, Or.inl rfl⟩⟩
    · intro m v y y1 y2 hv kk2
      show wb_X12_breaks_42 (wl_X12_breaks_22 post n) (wl_X12_breaks_42 (wl_X12_breaks_22 post n) post m) h2 92 (iI hr) b (iI r) (iI v.1) (iI v.2) (iI y) post
      unfold wb_X12_breaks_42
      simp (disch := omega) only [MSh.o0 M, MSh.p1 M, MSh.o1 M, MSh.l1 M, MSh.p6 M, MSh.o2 M, MSh.l2 M, MSh.p7 M, MSh.o3 M, MSh.l3 M, MSh.p8 M, MSh.o4 M, MSh.l4 M, MSh.p9 M, MSh.o5 M, MSh.l5 M, MSh.p10 M, MSh.o6 M, MSh.l6 M, MSh.p24 M, MSh.o7 M, MSh.l7 M, MSh.p25 M, MSh.o8 M, MSh.l8 M, MSh.p26 M, MSh.o9 M, MSh.l9 M, MSh.p32 M, MSh.o10 M, MSh.l10 M, MSh.p33 M, MSh.o11 M, MSh.l11 M, MSh.p35 M, MSh.o12 M, MSh.l12 M, MSh.p36 M, MSh.o13 M, MSh.l13 M, MSh.p37 M, MSh.o14 M, MSh.l14 M, MSh.p38 M, MSh.o15 M, MSh.l15 M, MSh.p39 M, MSh.o16 M, MSh.l16 M, MSh.p42 M, MSh.o17 M, MSh.l17 M, MSh.p43 M, MSh.o18 M, MSh.l18 M, MSh.p44 M, MSh.o19 M, MSh.l19 M, MSh.p45 M, MSh.o20 M, MSh.l20 M, MSh.p46 M, MSh.o21 M, MSh.l21 M, MSh.p47 M, MSh.o22 M, MSh.l22 M, MSh.p50 M, MSh.o23 M, MSh.l23 M, MSh.p51 M, MSh.o24 M, MSh.l24 M, MSh.p52 M, MSh.o25 M, MSh.l25 M, -Int.reduceToNat, -Int32.reduceToNatClampNeg, il0, il1, il2, il3, il4, il5, il6, il7, il8, il9, il10, il11, il12, il13, il14, il15, il16, il17, il18, il19, il20, il21, il22, il23, il24, il25, il26, il27, il28, il29, il30, il31, il32, il35, il36, il38, il40, il42, il43, il44, il45, il46, il47, il48, il49, il50, il51, il52, il57, il59, il60, il63, il64, il75, il80, il95, il96, il97, il98, il99, il100, il120, il122, il123, il127, il128, il135, il167, il175, il225, il249, il250, il255, il256, il360, il370, il384, il600, il700, il740, il900, il940, il1024, il1600, il4800, il64000, il125000, il262143, il1000000000, iI_toInt, iI_add, iI_sub, iI_mul, iI_neg, iI_lt, iI_le, iI_eq, iI_n, iI_in, iI_div, iI_mod, iI_shm, iI_and1, iI_and7, iI_and63, iI_shr3, iI_shr6, rd_I, ob, Option.some.injEq, exists_eq_left', exists_eq_left, true_and, and_true, fqI, fqJ, eq_self, true_or, or_true, bP_0, bP_0i, npP, bP_1i, bP_b, not_true_eq_false, not_false_eq_true, false_implies, true_implies, implies_true, Classical.not_not, and_self, cP, cP', ite_n, ite_f, hs]
      refine lf_for (W := fun m' (v : Int × Int) x => wl_X12_breaks_56 (wl_X12_breaks_22 post n) (wl_X12_breaks_42 (wl_X12_breaks_22 post n) post m) post m' h2 92 (iI hr) b (iI r) (iI v.1) (iI v.2) (iI y) (iI x)) (lo := 0) (hi := s 0) (fun x v => (0 ≤ v.1 ∧ v.2 ≤ 99) ∧ lowI s (seenC (tS s) (zC s) r x y) v.1 ∧ topI s (seenC (tS s) (zC s) r x y) v.2) (by omega) ?_ ?_ v hv
      · intro m' v x x1 x2 hv kk3
        obtain ⟨⟨v1, v2⟩, v3, v4⟩ := hv
        have gb := hG.sb (11 + 8 * y + x) (by omega) (by omega)
        have l9 := v3.1
        have t0 := v4.1
        have ion : ∀ (p : AH → Int32 → Prop), wp_X12_isOn h2 92 (iI r) (iI x) (iI y) p ↔ p h2 (bP (onT (tS s) (zC s) r x y)) := fun p => by
          rw [m_isOn M r1 (by omega) (by rw [e99, e100]; exact RB) (by omega) (by omega) (by omega) (by omega), e99, e100]
        show wb_X12_breaks_56 (wl_X12_breaks_22 post n) (wl_X12_breaks_42 (wl_X12_breaks_22 post n) post m) (wl_X12_breaks_56 (wl_X12_breaks_22 post n) (wl_X12_breaks_42 (wl_X12_breaks_22 post n) post m) post m') h2 92 (iI hr) b (iI r) (iI v.1) (iI v.2) (iI y) (iI x) post
        unfold wb_X12_breaks_56 wb_X12_breaks_109 wb_X12_breaks_111 wb_X12_breaks_137 wb_X12_breaks_139
        simp (disch := omega) only [MSh.o0 M, MSh.p1 M, MSh.o1 M, MSh.l1 M, MSh.p6 M, MSh.o2 M, MSh.l2 M, MSh.p7 M, MSh.o3 M, MSh.l3 M, MSh.p8 M, MSh.o4 M, MSh.l4 M, MSh.p9 M, MSh.o5 M, MSh.l5 M, MSh.p10 M, MSh.o6 M, MSh.l6 M, MSh.p24 M, MSh.o7 M, MSh.l7 M, MSh.p25 M, MSh.o8 M, MSh.l8 M, MSh.p26 M, MSh.o9 M, MSh.l9 M, MSh.p32 M, MSh.o10 M, MSh.l10 M, MSh.p33 M, MSh.o11 M, MSh.l11 M, MSh.p35 M, MSh.o12 M, MSh.l12 M, MSh.p36 M, MSh.o13 M, MSh.l13 M, MSh.p37 M, MSh.o14 M, MSh.l14 M, MSh.p38 M, MSh.o15 M, MSh.l15 M, MSh.p39 M, MSh.o16 M, MSh.l16 M, MSh.p42 M, MSh.o17 M, MSh.l17 M, MSh.p43 M, MSh.o18 M, MSh.l18 M, MSh.p44 M, MSh.o19 M, MSh.l19 M, MSh.p45 M, MSh.o20 M, MSh.l20 M, MSh.p46 M, MSh.o21 M, MSh.l21 M, MSh.p47 M, MSh.o22 M, MSh.l22 M, MSh.p50 M, MSh.o23 M, MSh.l23 M, MSh.p51 M, MSh.o24 M, MSh.l24 M, MSh.p52 M, MSh.o25 M, MSh.l25 M, -Int.reduceToNat, -Int32.reduceToNatClampNeg, il0, il1, il2, il3, il4, il5, il6, il7, il8, il9, il10, il11, il12, il13, il14, il15, il16, il17, il18, il19, il20, il21, il22, il23, il24, il25, il26, il27, il28, il29, il30, il31, il32, il35, il36, il38, il40, il42, il43, il44, il45, il46, il47, il48, il49, il50, il51, il52, il57, il59, il60, il63, il64, il75, il80, il95, il96, il97, il98, il99, il100, il120, il122, il123, il127, il128, il135, il167, il175, il225, il249, il250, il255, il256, il360, il370, il384, il600, il700, il740, il900, il940, il1024, il1600, il4800, il64000, il125000, il262143, il1000000000, iI_toInt, iI_add, iI_sub, iI_mul, iI_neg, iI_lt, iI_le, iI_eq, iI_n, iI_in, iI_div, iI_mod, iI_shm, iI_and1, iI_and7, iI_and63, iI_shr3, iI_shr6, rd_I, ob, Option.some.injEq, exists_eq_left', exists_eq_left, true_and, and_true, fqI, fqJ, eq_self, true_or, or_true, bP_0, bP_0i, npP, bP_1i, bP_b, not_true_eq_false, not_false_eq_true, false_implies, true_implies, implies_true, Classical.not_not, and_self, cP, cP', ite_n, ite_f, hs, ion]
        by_cases co : onT (tS s) (zC s) r x y
        · have sC : ∀ x' y', seenC (tS s) (zC s) r (x + 1) y x' y' ↔ seenC (tS s) (zC s) r x y x' y' ∨ (x' = x ∧ y' = y) := by
            intro x' y'
            unfold seenC
            constructor
            · rintro ⟨p, q⟩
              by_cases c : x' = x ∧ y' = y
              · exact Or.inr c
              · exact Or.inl ⟨p, by omega⟩
            · rintro (⟨p, q⟩ | ⟨rfl, rfl⟩)
              · exact ⟨p, by omega⟩
              · exact ⟨co, by omega⟩
          have la := low_add v3 sC rfl
          have ta := top_add v4 sC rfl
          have fin := kk3 (if s (11 + 8 * y + x) < v.1 then s (11 + 8 * y + x) else v.1, if v.2 < s (11 + 8 * y + x) then s (11 + 8 * y + x) else v.2) ⟨⟨by split <;> omega, by split <;> omega⟩, la, ta⟩
          rw [ite_t co]
          simp (disch := omega) only [ite_t co]
          by_cases d1 : v.1 ≤ s (11 + 8 * y + x)
          · rw [ite_t d1]
            rw [if_neg (by omega)] at fin
            by_cases d2 : s (11 + 8 * y + x) ≤ v.2
            · rw [ite_t d2]; rw [if_neg (by omega)] at fin; exact fin
            · rw [ite_f d2]; rw [if_pos (by omega)] at fin; exact fin
          · rw [ite_f d1]
            rw [if_pos (by omega)] at fin
            by_cases d2 : s (11 + 8 * y + x) ≤ v.2
            · rw [ite_t d2]; rw [if_neg (by omega)] at fin; exact fin
            · rw [ite_f d2]; rw [if_pos (by omega)] at fin; exact fin
        · have sC : ∀ x' y', seenC (tS s) (zC s) r (x + 1) y x' y' ↔ seenC (tS s) (zC s) r x y x' y' := by
            intro x' y'
            unfold seenC
            constructor
            · rintro ⟨p, q⟩
              refine ⟨p, ?_⟩
              by_cases c : x' = x ∧ y' = y
              · obtain ⟨rfl, rfl⟩ := c
                exact absurd p co
              · omega
            · rintro ⟨p, q⟩
              exact ⟨p, by omega⟩
          simp (disch := omega) only [ite_f co]
          exact kk3 v ⟨⟨v1, v2⟩, low_same v3 sC, top_same v4 sC⟩
      · intro m' v hv
        show wb_X12_breaks_56 (wl_X12_breaks_22 post n) (wl_X12_breaks_42 (wl_X12_breaks_22 post n) post m) (wl_X12_breaks_56 (wl_X12_breaks_22 post n) (wl_X12_breaks_42 (wl_X12_breaks_22 post n) post m) post m') h2 92 (iI hr) b (iI r) (iI v.1) (iI v.2) (iI y) (iI (s 0)) post
        unfold wb_X12_breaks_56
        simp (disch := omega) only [MSh.o0 M, MSh.p1 M, MSh.o1 M, MSh.l1 M, MSh.p6 M, MSh.o2 M, MSh.l2 M, MSh.p7 M, MSh.o3 M, MSh.l3 M, MSh.p8 M, MSh.o4 M, MSh.l4 M, MSh.p9 M, MSh.o5 M, MSh.l5 M, MSh.p10 M, MSh.o6 M, MSh.l6 M, MSh.p24 M, MSh.o7 M, MSh.l7 M, MSh.p25 M, MSh.o8 M, MSh.l8 M, MSh.p26 M, MSh.o9 M, MSh.l9 M, MSh.p32 M, MSh.o10 M, MSh.l10 M, MSh.p33 M, MSh.o11 M, MSh.l11 M, MSh.p35 M, MSh.o12 M, MSh.l12 M, MSh.p36 M, MSh.o13 M, MSh.l13 M, MSh.p37 M, MSh.o14 M, MSh.l14 M, MSh.p38 M, MSh.o15 M, MSh.l15 M, MSh.p39 M, MSh.o16 M, MSh.l16 M, MSh.p42 M, MSh.o17 M, MSh.l17 M, MSh.p43 M, MSh.o18 M, MSh.l18 M, MSh.p44 M, MSh.o19 M, MSh.l19 M, MSh.p45 M, MSh.o20 M, MSh.l20 M, MSh.p46 M, MSh.o21 M, MSh.l21 M, MSh.p47 M, MSh.o22 M, MSh.l22 M, MSh.p50 M, MSh.o23 M, MSh.l23 M, MSh.p51 M, MSh.o24 M, MSh.l24 M, MSh.p52 M, MSh.o25 M, MSh.l25 M, -Int.reduceToNat, -Int32.reduceToNatClampNeg, il0, il1, il2, il3, il4, il5, il6, il7, il8, il9, il10, il11, il12, il13, il14, il15, il16, il17, il18, il19, il20, il21, il22, il23, il24, il25, il26, il27, il28, il29, il30, il31, il32, il35, il36, il38, il40, il42, il43, il44, il45, il46, il47, il48, il49, il50, il51, il52, il57, il59, il60, il63, il64, il75, il80, il95, il96, il97, il98, il99, il100, il120, il122, il123, il127, il128, il135, il167, il175, il225, il249, il250, il255, il256, il360, il370, il384, il600, il700, il740, il900, il940, il1024, il1600, il4800, il64000, il125000, il262143, il1000000000, iI_toInt, iI_add, iI_sub, iI_mul, iI_neg, iI_lt, iI_le, iI_eq, iI_n, iI_in, iI_div, iI_mod, iI_shm, iI_and1, iI_and7, iI_and63, iI_shr3, iI_shr6, rd_I, ob, Option.some.injEq, exists_eq_left', exists_eq_left, true_and, and_true, fqI, fqJ, eq_self, true_or, or_true, bP_0, bP_0i, npP, bP_1i, bP_b, not_true_eq_false, not_false_eq_true, false_implies, true_implies, implies_true, Classical.not_not, and_self, cP, cP', ite_n, ite_T, ite_F, ite_t, ite_f, hs]
        have sC : ∀ x' y', seenC (tS s) (zC s) r 0 (y + 1) x' y' ↔ seenC (tS s) (zC s) r (s 0) y x' y' := by
          intro x' y'
          unfold seenC
          constructor
          · rintro ⟨p, q⟩
            have p' := p
            obtain ⟨p1, p2, p3, p4⟩ := p'
            exact ⟨p, by omega⟩
          · rintro ⟨p, q⟩
            have p' := p
            obtain ⟨p1, p2, p3, p4⟩ := p'
            exact ⟨p, by omega⟩
        exact kk2 v ⟨hv.1, low_same hv.2.1 sC, top_same hv.2.2 sC⟩
    · intro m v hv
      obtain ⟨⟨v1, v2⟩, v3, v4⟩ := hv
      show wb_X12_breaks_42 (wl_X12_breaks_22 post n) (wl_X12_breaks_42 (wl_X12_breaks_22 post n) post m) h2 92 (iI hr) b (iI r) (iI v.1) (iI v.2) (iI (s 1)) post
      have l9 := v3.1
      have t0 := v4.1
      have flo : ∀ (p : AH → Int32 → Prop), wp_X12_doesFloat h2 92 (iI r) (iI hr) p ↔ p h2 (bP (flT s (tS s) (zC s) r hr)) := fun p => by
        rw [m_doesFloat M (by rw [hs]; exact hG.sb) r1 (by omega) (by rw [e99, e100]; exact RB) (by rw [e99, e100]; exact I8) c1.1 c1.2, hs, e99, e100]
      unfold wb_X12_breaks_42 wb_X12_breaks_178 wb_X12_breaks_179
      simp (disch := omega) only [MSh.o0 M, MSh.p1 M, MSh.o1 M, MSh.l1 M, MSh.p6 M, MSh.o2 M, MSh.l2 M, MSh.p7 M, MSh.o3 M, MSh.l3 M, MSh.p8 M, MSh.o4 M, MSh.l4 M, MSh.p9 M, MSh.o5 M, MSh.l5 M, MSh.p10 M, MSh.o6 M, MSh.l6 M, MSh.p24 M, MSh.o7 M, MSh.l7 M, MSh.p25 M, MSh.o8 M, MSh.l8 M, MSh.p26 M, MSh.o9 M, MSh.l9 M, MSh.p32 M, MSh.o10 M, MSh.l10 M, MSh.p33 M, MSh.o11 M, MSh.l11 M, MSh.p35 M, MSh.o12 M, MSh.l12 M, MSh.p36 M, MSh.o13 M, MSh.l13 M, MSh.p37 M, MSh.o14 M, MSh.l14 M, MSh.p38 M, MSh.o15 M, MSh.l15 M, MSh.p39 M, MSh.o16 M, MSh.l16 M, MSh.p42 M, MSh.o17 M, MSh.l17 M, MSh.p43 M, MSh.o18 M, MSh.l18 M, MSh.p44 M, MSh.o19 M, MSh.l19 M, MSh.p45 M, MSh.o20 M, MSh.l20 M, MSh.p46 M, MSh.o21 M, MSh.l21 M, MSh.p47 M, MSh.o22 M, MSh.l22 M, MSh.p50 M, MSh.o23 M, MSh.l23 M, MSh.p51 M, MSh.o24 M, MSh.l24 M, MSh.p52 M, MSh.o25 M, MSh.l25 M, -Int.reduceToNat, -Int32.reduceToNatClampNeg, il0, il1, il2, il3, il4, il5, il6, il7, il8, il9, il10, il11, il12, il13, il14, il15, il16, il17, il18, il19, il20, il21, il22, il23, il24, il25, il26, il27, il28, il29, il30, il31, il32, il35, il36, il38, il40, il42, il43, il44, il45, il46, il47, il48, il49, il50, il51, il52, il57, il59, il60, il63, il64, il75, il80, il95, il96, il97, il98, il99, il100, il120, il122, il123, il127, il128, il135, il167, il175, il225, il249, il250, il255, il256, il360, il370, il384, il600, il700, il740, il900, il940, il1024, il1600, il4800, il64000, il125000, il262143, il1000000000, iI_toInt, iI_add, iI_sub, iI_mul, iI_neg, iI_lt, iI_le, iI_eq, iI_n, iI_in, iI_div, iI_mod, iI_shm, iI_and1, iI_and7, iI_and63, iI_shr3, iI_shr6, rd_I, ob, Option.some.injEq, exists_eq_left', exists_eq_left, true_and, and_true, fqI, fqJ, eq_self, true_or, or_true, bP_0, bP_0i, npP, bP_1i, bP_b, not_true_eq_false, not_false_eq_true, false_implies, true_implies, implies_true, Classical.not_not, and_self, cP, cP', ite_n, ite_t, hs, flo, or0]
      have hall : ∀ x y, onT (tS s) (zC s) r x y → seenC (tS s) (zC s) r 0 (s 1) x y := fun x y p => ⟨p, by obtain ⟨p1, p2, p3, p4⟩ := p; omega⟩
      have hun : (v.2 - v.1 ≤ 1) ↔ ¬ unT s (tS s) (zC s) r := by
        constructor
        · rintro q ⟨x, y, x', y', p1, p2, p3⟩
          have := v3.2.1 x y (hall x y p1)
          have := v4.2.1 x' y' (hall x' y' p2)
          omega
        · intro q
          apply Classical.byContradiction
          intro q2
          have c0 : onT (tS s) (zC s) r (tS s (3 * r)) (tS s (3 * r + 1)) := ⟨by omega, by omega, by omega, by omega⟩
          have b1 := v3.2.1 _ _ (hall _ _ c0)
          have b2 := v4.2.1 _ _ (hall _ _ c0)
          have g9 := hG.sd.2.1 (tS s (3 * r)) (tS s (3 * r + 1)) (by omega) (by omega) (by omega) (by omega)
          have g0 := hG.sb (11 + 8 * tS s (3 * r + 1) + tS s (3 * r)) (by omega) (by omega)
          rcases v3.2.2 with e | ⟨x, y, p1, p2⟩
          · rcases v4.2.2 with e' | ⟨x', y', p1', p2'⟩
            · omega
            · exact q ⟨tS s (3 * r), tS s (3 * r + 1), x', y', c0, p1'.1, by omega⟩
          · rcases v4.2.2 with e' | ⟨x', y', p1', p2'⟩
            · exact q ⟨x, y, tS s (3 * r), tS s (3 * r + 1), p1.1, c0, by omega⟩
            · exact q ⟨x, y, x', y', p1.1, p1'.1, by omega⟩
      rw [ite_c hun]
      have e1 : (r + 1).toNat = r.toNat + 1 := by omega
      have e2 : (0 : Int) + (r.toNat : Int) = r := by omega
      have fin : ∀ b', b' = bitsF (fun r => ¬ flT s (tS s) (zC s) r hr ∧ unT s (tS s) (zC s) r) r b → wl_X12_breaks_22 post n h2 92 (iI hr) b' (iI (r + 1)) := by
        intro b' eb
        apply kk
        rw [eb, e1, foldI_snoc, e2, hb]
      by_cases c2 : unT s (tS s) (zC s) r
      · rw [ite_f (fun q => q c2)]
        by_cases c3 : flT s (tS s) (zC s) r hr
        · rw [ite_t c3]
          exact fin _ (by unfold bitsF; rw [ite_f (fun q => q.1 c3)])
        · rw [ite_f c3]
          exact fin _ (by unfold bitsF; rw [ite_t ⟨c3, c2⟩])
      · rw [ite_t c2]
        exact fin _ (by unfold bitsF; rw [ite_f (fun q => c2 q.2)])
    · obtain ⟨⟨p1, p2, p3, p4⟩, q⟩ := q
      omega
    · obtain ⟨⟨p1, p2, p3, p4⟩, q⟩ := q
      omega
  · intro n b hb
    show wb_X12_breaks_22 (wl_X12_breaks_22 post n) h2 92 (iI hr) b (iI (s 2)) post
    unfold wb_X12_breaks_22
    simp (disch := omega) only [MSh.o0 M, MSh.p1 M, MSh.o1 M, MSh.l1 M, MSh.p6 M, MSh.o2 M, MSh.l2 M, MSh.p7 M, MSh.o3 M, MSh.l3 M, MSh.p8 M, MSh.o4 M, MSh.l4 M, MSh.p9 M, MSh.o5 M, MSh.l5 M, MSh.p10 M, MSh.o6 M, MSh.l6 M, MSh.p24 M, MSh.o7 M, MSh.l7 M, MSh.p25 M, MSh.o8 M, MSh.l8 M, MSh.p26 M, MSh.o9 M, MSh.l9 M, MSh.p32 M, MSh.o10 M, MSh.l10 M, MSh.p33 M, MSh.o11 M, MSh.l11 M, MSh.p35 M, MSh.o12 M, MSh.l12 M, MSh.p36 M, MSh.o13 M, MSh.l13 M, MSh.p37 M, MSh.o14 M, MSh.l14 M, MSh.p38 M, MSh.o15 M, MSh.l15 M, MSh.p39 M, MSh.o16 M, MSh.l16 M, MSh.p42 M, MSh.o17 M, MSh.l17 M, MSh.p43 M, MSh.o18 M, MSh.l18 M, MSh.p44 M, MSh.o19 M, MSh.l19 M, MSh.p45 M, MSh.o20 M, MSh.l20 M, MSh.p46 M, MSh.o21 M, MSh.l21 M, MSh.p47 M, MSh.o22 M, MSh.l22 M, MSh.p50 M, MSh.o23 M, MSh.l23 M, MSh.p51 M, MSh.o24 M, MSh.l24 M, MSh.p52 M, MSh.o25 M, MSh.l25 M, -Int.reduceToNat, -Int32.reduceToNatClampNeg, il0, il1, il2, il3, il4, il5, il6, il7, il8, il9, il10, il11, il12, il13, il14, il15, il16, il17, il18, il19, il20, il21, il22, il23, il24, il25, il26, il27, il28, il29, il30, il31, il32, il35, il36, il38, il40, il42, il43, il44, il45, il46, il47, il48, il49, il50, il51, il52, il57, il59, il60, il63, il64, il75, il80, il95, il96, il97, il98, il99, il100, il120, il122, il123, il127, il128, il135, il167, il175, il225, il249, il250, il255, il256, il360, il370, il384, il600, il700, il740, il900, il940, il1024, il1600, il4800, il64000, il125000, il262143, il1000000000, iI_toInt, iI_add, iI_sub, iI_mul, iI_neg, iI_lt, iI_le, iI_eq, iI_n, iI_in, iI_div, iI_mod, iI_shm, iI_and1, iI_and7, iI_and63, iI_shr3, iI_shr6, rd_I, ob, Option.some.injEq, exists_eq_left', exists_eq_left, true_and, and_true, fqI, fqJ, eq_self, true_or, or_true, bP_0, bP_0i, npP, bP_1i, bP_b, not_true_eq_false, not_false_eq_true, false_implies, true_implies, implies_true, Classical.not_not, and_self, cP, cP', ite_n, ite_T, ite_F, ite_t, ite_f, hs]
    rw [hb]
    exact k'
theorem cX_wants (I : Inv h i la fr qa ac) (hh : -2147483648 ≤ w) (hh' : w < 2147483648)
    (k : post h (iteP (w = 0) (iI (foldI (sumF (soT (rd h 94) (tS (rd h 94)) (zC (rd h 94))) (fun w => rd h 94 (175 + 5 * w + 4))) (rd h 94 5).toNat 0 0)) (iteP (w = 1) (foldI (bitsF (soT (rd h 94) (tS (rd h 94)) (zC (rd h 94)))) (rd h 94 5).toNat 0 (iI 0)) (iI (-1))))) : wp_X11_wants h 0 (iI w) post := by
  obtain ⟨S, M, hl, hp, H, L, T, hG, hZ⟩ := I.core
  unfold wp_X11_wants
  simp (disch := omega) only [CSh.o0 S, CSh.o1 S, CSh.o2 S, CSh.o3 S, CSh.o26 S, CSh.o27 S, CSh.o29 S, CSh.o30 S, CSh.o31 S, CSh.o56 S, CSh.o57 S, CSh.o58 S, CSh.o62 S, CSh.o66 S, CSh.o70 S, CSh.o74 S, CSh.o75 S, CSh.o77 S, CSh.o79 S, CSh.o80 S, CSh.o81 S, CSh.o82 S, CSh.o83 S, CSh.o84 S, CSh.o85 S, CSh.o86 S, CSh.o87 S, CSh.o88 S, CSh.o53 S, CSh.o54 S, CSh.o55 S, CSh.o59 S, CSh.o60 S, CSh.o61 S, CSh.o63 S, CSh.o64 S, CSh.o65 S, CSh.o67 S, CSh.o68 S, CSh.o69 S, CSh.o71 S, CSh.o72 S, CSh.o73 S, CSh.o89 S, CSh.o90 S, CSh.o91 S, CSh.l1 S, CSh.l3 S, CSh.l27 S, CSh.l29 S, CSh.l30 S, CSh.l56 S, CSh.l57 S, CSh.l58 S, CSh.l75 S, CSh.l77 S, CSh.l79 S, CSh.l81 S, CSh.l82 S, CSh.l83 S, CSh.l84 S, CSh.l85 S, CSh.l86 S, CSh.l87 S, CSh.l88 S, CSh.l54 S, CSh.l55 S, CSh.l60 S, CSh.l61 S, CSh.l64 S, CSh.l65 S, CSh.l68 S, CSh.l69 S, CSh.l72 S, CSh.l73 S, CSh.l90 S, CSh.l91 S, CSh.p0_0 S, CSh.p0_3 S, CSh.p0_4 S, CSh.p0_5 S, CSh.p0_6 S, CSh.p0_7 S, CSh.p0_8 S, CSh.p0_9 S, CSh.p0_10 S, CSh.p0_14 S, CSh.p2_0 S, CSh.p26_0 S, CSh.p26_13 S, CSh.p26_14 S, CSh.p31_1 S, CSh.p31_3 S, CSh.p31_4 S, CSh.p62_0 S, CSh.p66_0 S, CSh.p70_0 S, CSh.p74_0 S, CSh.p74_1 S, CSh.p74_6 S, CSh.p74_7 S, CSh.p74_10 S, CSh.p80_1 S, CSh.p80_2 S, CSh.p80_3 S, CSh.p80_4 S, CSh.p80_5 S, CSh.p80_6 S, CSh.p80_7 S, CSh.p80_8 S, CSh.p53_1 S, CSh.p53_2 S, CSh.p59_1 S, CSh.p59_2 S, CSh.p63_1 S, CSh.p63_2 S, CSh.p67_1 S, CSh.p67_2 S, CSh.p71_1 S, CSh.p71_2 S, CSh.p89_1 S, CSh.p89_2 S, hp, -Int.reduceToNat, -Int32.reduceToNatClampNeg, il0, il1, il2, il3, il4, il5, il6, il7, il8, il9, il10, il11, il12, il13, il14, il15, il16, il17, il18, il19, il20, il21, il22, il23, il24, il25, il26, il27, il28, il29, il30, il31, il32, il35, il36, il38, il40, il42, il43, il44, il45, il46, il47, il48, il49, il50, il51, il52, il57, il59, il60, il63, il64, il75, il80, il95, il96, il97, il98, il99, il100, il120, il122, il123, il127, il128, il135, il167, il175, il225, il249, il250, il255, il256, il360, il370, il384, il600, il700, il740, il900, il940, il1024, il1600, il4800, il64000, il125000, il262143, il1000000000, iI_toInt, iI_add, iI_sub, iI_mul, iI_neg, iI_lt, iI_le, iI_eq, iI_n, iI_in, iI_div, iI_mod, iI_shm, iI_and1, iI_and7, iI_and63, iI_shr3, iI_shr6, rd_I, ob, Option.some.injEq, exists_eq_left', exists_eq_left, true_and, and_true, fqI, fqJ, eq_self, true_or, or_true, bP_0, bP_0i, npP, bP_1i, bP_b, not_true_eq_false, not_false_eq_true, false_implies, true_implies, implies_true, Classical.not_not, and_self, cP, cP', ite_n, c_met H L T hG.1 hG.2.1 (EZ.c _) hG.vt, c_metBits H L T hG.1 hG.2.1 (EZ.c _) hG.vt]
  by_cases c0 : w = 0
  · rw [ite_t c0]; rw [ite_t c0] at k; exact k
  rw [ite_f c0]; rw [ite_f c0] at k
  by_cases c1 : w = 1
  · rw [ite_t c1]; rw [ite_t c1] at k; exact k
  · rw [ite_f c1]; rw [ite_f c1] at k; exact k
theorem mX_wants (I : Inv h i la fr qa ac) (hh : -2147483648 ≤ w) (hh' : w < 2147483648)
    (k : ∀ h', Qt h h' → post h' (iteP (w = 0) (iI (foldI (sumF (soT (rd h 94) (tS (rd h 94)) (zC (rd h 94))) (fun w => rd h 94 (175 + 5 * w + 4))) (rd h 94 5).toNat 0 0)) (iteP (w = 1) (foldI (bitsF (soT (rd h 94) (tS (rd h 94)) (zC (rd h 94)))) (rd h 94 5).toNat 0 (iI 0)) (iI (-1))))) : wp_X12_wants h 92 (iI w) post := by
  unfold wp_X12_wants
  refine ⟨I.m.o0, fun h1 e1 => ?_⟩
  obtain ⟨I1, q1, es, -⟩ := I.thr e1
  rw [← es] at k
  simp (disch := omega) only [-Int.reduceToNat, -Int32.reduceToNatClampNeg, il0, il1, il2, il3, il4, il5, il6, il7, il8, il9, il10, il11, il12, il13, il14, il15, il16, il17, il18, il19, il20, il21, il22, il23, il24, il25, il26, il27, il28, il29, il30, il31, il32, il35, il36, il38, il40, il42, il43, il44, il45, il46, il47, il48, il49, il50, il51, il52, il57, il59, il60, il63, il64, il75, il80, il95, il96, il97, il98, il99, il100, il120, il122, il123, il127, il128, il135, il167, il175, il225, il249, il250, il255, il256, il360, il370, il384, il600, il700, il740, il900, il940, il1024, il1600, il4800, il64000, il125000, il262143, il1000000000, iI_toInt, iI_add, iI_sub, iI_mul, iI_neg, iI_lt, iI_le, iI_eq, iI_n, iI_in, iI_div, iI_mod, iI_shm, iI_and1, iI_and7, iI_and63, iI_shr3, iI_shr6, rd_I, ob, Option.some.injEq, exists_eq_left', exists_eq_left, true_and, and_true, fqI, fqJ, eq_self, true_or, or_true, bP_0, bP_0i, npP, bP_1i, bP_b, not_true_eq_false, not_false_eq_true, false_implies, true_implies, implies_true, Classical.not_not, and_self, cP, cP', ite_n, m_isIn]
  by_cases c : 0 ≤ w ∧ w ≤ 1
  case neg =>
    rw [ite_f c]
    rw [ite_f (by omega), ite_f (by omega)] at k
    exact k h1 q1
  rw [ite_t c]
  refine ⟨I1.m.o0, ?_⟩
  refine m_as I1 fun h2 q2 I2 e94 e99 e100 => ?_
  have M := I2.m
  have hG := I2.ga
  have bd := hG.bd
  rw [← e94] at k e99 e100
  have k' := k h2 (q1.trans q2)
  have hA : ∀ o, 0 ≤ o → o < rd h2 94 2 → RBd (rd h2 99) (rd h2 100) o := fun o o1 o2 => by rw [e99, e100]; exact hG.rb o1 o2
  have N : rd h2 94 2 ≤ 8 ∧ rd h2 94 5 ≤ 10 := by omega
  have sn := m_soNow (post := post) M hG.sb N hG.1.1.2.2.2.2.2.2.2.2 hA
  have mt := m_met (post := post) M hG.sb N hG.1.1.2.2.2.2.2.2.2.2 hA
  rw [e99, e100, Int.sub_zero] at sn mt
  by_cases c0 : w = 0
  · rw [ite_t c0]; rw [ite_t c0] at k'
    exact ⟨M.o0, mt.mpr k'⟩
  · rw [ite_f c0]; rw [ite_f c0, ite_t (by omega)] at k'
    exact ⟨M.o0, sn.mpr k'⟩
end LOOKS
