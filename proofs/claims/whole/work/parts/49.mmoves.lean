section MMOVES
variable {h : AH} {post : AH → Int32 → Prop} {a b c d r x y n hr w u how : Int}
theorem dx_bd (d : Int) : -1 ≤ dxS d ∧ dxS d ≤ 1 := by
  unfold dxS
  split
  · omega
  · split <;> omega
theorem dy_bd (d : Int) : -1 ≤ dyS d ∧ dyS d ≤ 1 := by
  unfold dyS
  split
  · omega
  · split <;> omega
theorem m_slide (M : MSh h) (hr0 : 0 ≤ r) (hr8 : r < 8) (hP : P1 (rd h 99) r) (h3 : 0 ≤ how) (h4 : how < 4) (k : ∀ h2, Fr [99] [] [] h h2 → rd h2 99 = sldT (rd h 99) r how → wb_X12_moves_126 h2 92 (iI r) (iI hr) (iI x) (iI y) (iI u) post) :
    wb_X12_moves_93 h 92 (iI r) (iI how) (iI hr) (iI x) (iI y) (iI u) (iI (dxS how)) (iI (rd h 99 (3 * r))) (iI (3 * r)) 99 post := by
  have dx := dx_bd how
  have dy := dy_bd how
  obtain ⟨⟨p1, p2⟩, ⟨p3, p4⟩, p5, p6⟩ := hP
  unfold wb_X12_moves_93 wb_X12_moves_124
  simp (disch := omega) only [MSh.o0 M, MSh.p1 M, MSh.o1 M, MSh.l1 M, MSh.p6 M, MSh.o2 M, MSh.l2 M, MSh.p7 M, MSh.o3 M, MSh.l3 M, MSh.p8 M, MSh.o4 M, MSh.l4 M, MSh.p9 M, MSh.o5 M, MSh.l5 M, MSh.p10 M, MSh.o6 M, MSh.l6 M, MSh.p24 M, MSh.o7 M, MSh.l7 M, MSh.p25 M, MSh.o8 M, MSh.l8 M, MSh.p26 M, MSh.o9 M, MSh.l9 M, MSh.p32 M, MSh.o10 M, MSh.l10 M, MSh.p33 M, MSh.o11 M, MSh.l11 M, MSh.p35 M, MSh.o12 M, MSh.l12 M, MSh.p36 M, MSh.o13 M, MSh.l13 M, MSh.p37 M, MSh.o14 M, MSh.l14 M, MSh.p38 M, MSh.o15 M, MSh.l15 M, MSh.p39 M, MSh.o16 M, MSh.l16 M, MSh.p42 M, MSh.o17 M, MSh.l17 M, MSh.p43 M, MSh.o18 M, MSh.l18 M, MSh.p44 M, MSh.o19 M, MSh.l19 M, MSh.p45 M, MSh.o20 M, MSh.l20 M, MSh.p46 M, MSh.o21 M, MSh.l21 M, MSh.p47 M, MSh.o22 M, MSh.l22 M, MSh.p50 M, MSh.o23 M, MSh.l23 M, MSh.p51 M, MSh.o24 M, MSh.l24 M, MSh.p52 M, MSh.o25 M, MSh.l25 M, -Int.reduceToNat, -Int32.reduceToNatClampNeg, il0, il1, il2, il3, il4, il5, il6, il7, il8, il9, il10, il11, il12, il13, il14, il15, il16, il17, il18, il19, il20, il21, il22, il23, il24, il25, il26, il27, il28, il29, il30, il31, il32, il35, il36, il38, il40, il42, il43, il44, il45, il46, il47, il48, il49, il50, il51, il52, il57, il59, il60, il63, il64, il75, il80, il95, il96, il97, il98, il99, il100, il120, il122, il123, il127, il128, il135, il167, il175, il225, il249, il250, il255, il256, il360, il370, il384, il600, il700, il740, il900, il940, il1024, il1600, il4800, il64000, il125000, il262143, il1000000000, iI_toInt, iI_add, iI_sub, iI_mul, iI_neg, iI_lt, iI_le, iI_eq, iI_n, iI_in, iI_div, iI_mod, iI_shm, iI_and1, iI_and7, iI_and63, iI_shr3, iI_shr6, rd_I, ob, Option.some.injEq, exists_eq_left', exists_eq_left, true_and, and_true, fqI, fqJ, eq_self, true_or, or_true, bP_0, bP_0i, npP, bP_1i, bP_b, not_true_eq_false, not_false_eq_true, false_implies, true_implies, implies_true, Classical.not_not, and_self, cP, cP', ite_n]
  intro ha ea
  obtain ⟨fa, ra⟩ := wI (by omega) (by omega) (by omega) ea
  have Ma := M.fr fa
  have e1 : rd ha 99 (3 * r + 1) = rd h 99 (3 * r + 1) := by rw [ra, updT_n (by omega)]
  have fin : ∀ v : Int, v = dyS how → ∀ hb, hb = hI ha 99 (3 * r + 1).toNat (iI (rd h 99 (3 * r + 1) + v)) → wb_X12_moves_126 hb 92 (iI r) (iI hr) (iI x) (iI y) (iI u) post := by
    intro v ev hb eb
    obtain ⟨fb, rb⟩ := wI (by omega) (by omega) (by omega) eb
    refine k hb (fa.trans fb) ?_
    rw [rb, ra, ev]
    unfold sldT tr3
    have e2 : rd h 99 (3 * r + 2) = updT (updT (rd h 99) (3 * r) (rd h 99 (3 * r) + dxS how)) (3 * r + 1) (rd h 99 (3 * r + 1) + dyS how) (3 * r + 2) := by rw [updT_n (by omega), updT_n (by omega)]
    rw [e2, updT_id]
  simp (disch := omega) only [MSh.o0 Ma, MSh.p1 Ma, MSh.o1 Ma, MSh.l1 Ma, MSh.p6 Ma, MSh.o2 Ma, MSh.l2 Ma, MSh.p7 Ma, MSh.o3 Ma, MSh.l3 Ma, MSh.p8 Ma, MSh.o4 Ma, MSh.l4 Ma, MSh.p9 Ma, MSh.o5 Ma, MSh.l5 Ma, MSh.p10 Ma, MSh.o6 Ma, MSh.l6 Ma, MSh.p24 Ma, MSh.o7 Ma, MSh.l7 Ma, MSh.p25 Ma, MSh.o8 Ma, MSh.l8 Ma, MSh.p26 Ma, MSh.o9 Ma, MSh.l9 Ma, MSh.p32 Ma, MSh.o10 Ma, MSh.l10 Ma, MSh.p33 Ma, MSh.o11 Ma, MSh.l11 Ma, MSh.p35 Ma, MSh.o12 Ma, MSh.l12 Ma, MSh.p36 Ma, MSh.o13 Ma, MSh.l13 Ma, MSh.p37 Ma, MSh.o14 Ma, MSh.l14 Ma, MSh.p38 Ma, MSh.o15 Ma, MSh.l15 Ma, MSh.p39 Ma, MSh.o16 Ma, MSh.l16 Ma, MSh.p42 Ma, MSh.o17 Ma, MSh.l17 Ma, MSh.p43 Ma, MSh.o18 Ma, MSh.l18 Ma, MSh.p44 Ma, MSh.o19 Ma, MSh.l19 Ma, MSh.p45 Ma, MSh.o20 Ma, MSh.l20 Ma, MSh.p46 Ma, MSh.o21 Ma, MSh.l21 Ma, MSh.p47 Ma, MSh.o22 Ma, MSh.l22 Ma, MSh.p50 Ma, MSh.o23 Ma, MSh.l23 Ma, MSh.p51 Ma, MSh.o24 Ma, MSh.l24 Ma, MSh.p52 Ma, MSh.o25 Ma, MSh.l25 Ma, -Int.reduceToNat, -Int32.reduceToNatClampNeg, il0, il1, il2, il3, il4, il5, il6, il7, il8, il9, il10, il11, il12, il13, il14, il15, il16, il17, il18, il19, il20, il21, il22, il23, il24, il25, il26, il27, il28, il29, il30, il31, il32, il35, il36, il38, il40, il42, il43, il44, il45, il46, il47, il48, il49, il50, il51, il52, il57, il59, il60, il63, il64, il75, il80, il95, il96, il97, il98, il99, il100, il120, il122, il123, il127, il128, il135, il167, il175, il225, il249, il250, il255, il256, il360, il370, il384, il600, il700, il740, il900, il940, il1024, il1600, il4800, il64000, il125000, il262143, il1000000000, iI_toInt, iI_add, iI_sub, iI_mul, iI_neg, iI_lt, iI_le, iI_eq, iI_n, iI_in, iI_div, iI_mod, iI_shm, iI_and1, iI_and7, iI_and63, iI_shr3, iI_shr6, rd_I, ob, Option.some.injEq, exists_eq_left', exists_eq_left, true_and, and_true, fqI, fqJ, eq_self, true_or, or_true, bP_0, bP_0i, npP, bP_1i, bP_b, not_true_eq_false, not_false_eq_true, false_implies, true_implies, implies_true, Classical.not_not, and_self, cP, cP', ite_n, e1]
  by_cases c2 : how = 2
  · rw [ite_t c2]
    exact fin 1 (by unfold dyS; rw [if_pos c2])
  · rw [ite_f c2]
    by_cases c0 : how = 0
    · rw [ite_t c0]
      exact fin (-1) (by unfold dyS; rw [if_neg c2, if_pos c0])
    · rw [ite_f c0]
      exact fin 0 (by unfold dyS; rw [if_neg c2, if_neg c0])
theorem m_moves (M : MSh h) (hS : SOk (rd h 94)) (hr0 : 0 ≤ r) (hr2 : r < rd h 94 2) (h3 : 0 ≤ how) (h4 : how ≤ 4) (hh : 0 ≤ hr) (hh' : hr < 24) (hP : ∀ o, 0 ≤ o → o < rd h 94 2 → P1 (rd h 99) o) (hZ : ∀ o, 0 ≤ o → o < rd h 94 2 → Z1 (rd h 100) o) (hI : in8 (rd h 99) (rd h 100) r)
    (k0 : ∀ h', whyT (rd h 94) (rd h 99) (rd h 100) r how hr = 0 → Fr [99] [] [] h h' → rd h' 99 = candT (rd h 94) (rd h 99) (rd h 100) r how → post h' (iI 0))
    (k : ∀ h', whyT (rd h 94) (rd h 99) (rd h 100) r how hr ≠ 0 → Fr [99] [] [] h h' → rd h' 99 = rd h 99 → post h' (iI (whyT (rd h 94) (rd h 99) (rd h 100) r how hr))) : wp_X12_moves h 92 (iI r) (iI how) (iI hr) post := by
  have hSS := hS
  obtain ⟨hS0, n0, n1, n2, n3, n4, n5, hK, hW⟩ := hS
  have r8 : r < 8 := by omega
  have hPr := hP r hr0 hr2
  have hZr := hZ r hr0 hr2
  have hR := RBd.of hPr hZr
  obtain ⟨⟨w1, w2⟩, w3, w4⟩ := wd_Z hPr hZr
  have same : Fr [99] [] [] h h := (Fr.refl h).mono (by simp) (by simp) (by simp)
  unfold wp_X12_moves
  simp (disch := omega) only [MSh.o0 M, MSh.p1 M, MSh.o1 M, MSh.l1 M, MSh.p6 M, MSh.o2 M, MSh.l2 M, MSh.p7 M, MSh.o3 M, MSh.l3 M, MSh.p8 M, MSh.o4 M, MSh.l4 M, MSh.p9 M, MSh.o5 M, MSh.l5 M, MSh.p10 M, MSh.o6 M, MSh.l6 M, MSh.p24 M, MSh.o7 M, MSh.l7 M, MSh.p25 M, MSh.o8 M, MSh.l8 M, MSh.p26 M, MSh.o9 M, MSh.l9 M, MSh.p32 M, MSh.o10 M, MSh.l10 M, MSh.p33 M, MSh.o11 M, MSh.l11 M, MSh.p35 M, MSh.o12 M, MSh.l12 M, MSh.p36 M, MSh.o13 M, MSh.l13 M, MSh.p37 M, MSh.o14 M, MSh.l14 M, MSh.p38 M, MSh.o15 M, MSh.l15 M, MSh.p39 M, MSh.o16 M, MSh.l16 M, MSh.p42 M, MSh.o17 M, MSh.l17 M, MSh.p43 M, MSh.o18 M, MSh.l18 M, MSh.p44 M, MSh.o19 M, MSh.l19 M, MSh.p45 M, MSh.o20 M, MSh.l20 M, MSh.p46 M, MSh.o21 M, MSh.l21 M, MSh.p47 M, MSh.o22 M, MSh.l22 M, MSh.p50 M, MSh.o23 M, MSh.l23 M, MSh.p51 M, MSh.o24 M, MSh.l24 M, MSh.p52 M, MSh.o25 M, MSh.l25 M, -Int.reduceToNat, -Int32.reduceToNatClampNeg, il0, il1, il2, il3, il4, il5, il6, il7, il8, il9, il10, il11, il12, il13, il14, il15, il16, il17, il18, il19, il20, il21, il22, il23, il24, il25, il26, il27, il28, il29, il30, il31, il32, il35, il36, il38, il40, il42, il43, il44, il45, il46, il47, il48, il49, il50, il51, il52, il57, il59, il60, il63, il64, il75, il80, il95, il96, il97, il98, il99, il100, il120, il122, il123, il127, il128, il135, il167, il175, il225, il249, il250, il255, il256, il360, il370, il384, il600, il700, il740, il900, il940, il1024, il1600, il4800, il64000, il125000, il262143, il1000000000, iI_toInt, iI_add, iI_sub, iI_mul, iI_neg, iI_lt, iI_le, iI_eq, iI_n, iI_in, iI_div, iI_mod, iI_shm, iI_and1, iI_and7, iI_and63, iI_shr3, iI_shr6, rd_I, ob, Option.some.injEq, exists_eq_left', exists_eq_left, true_and, and_true, fqI, fqJ, eq_self, true_or, or_true, bP_0, bP_0i, npP, bP_1i, bP_b, not_true_eq_false, not_false_eq_true, false_implies, true_implies, implies_true, Classical.not_not, and_self, cP, cP', ite_n, m_doesFloat M hS0 hr0 r8 hR hI]
  by_cases c1 : flT (rd h 94) (rd h 99) (rd h 100) r hr
  case neg =>
    rw [ite_f c1]
    have e : whyT (rd h 94) (rd h 99) (rd h 100) r how hr = 1 := by unfold whyT; rw [ite_f c1]
    rw [e] at k
    exact k h (by omega) same rfl
  rw [ite_t c1]
  obtain ⟨⟨p1, p2⟩, ⟨p3, p4⟩, p5, p6⟩ := hPr
  obtain ⟨i1, i2, i3, i4⟩ := hI
  -- the town as the act would leave it
  have go : ∀ h1 : AH, Fr [99] [] [] h h1 → (∃ x' y' u', (-300 ≤ x' ∧ x' ≤ 300) ∧ (-300 ≤ y' ∧ y' ≤ 300) ∧ (0 ≤ u' ∧ u' ≤ 1) ∧ rd h1 99 = tr3 (rd h 99) r x' y' u') → rd h1 99 = candT (rd h 94) (rd h 99) (rd h 100) r how → ¬ (how = 4 ∧ polT (rd h 94) (rd h 99) (rd h 100) r = -1) →
      wb_X12_moves_126 h1 92 (iI r) (iI hr) (iI (rd h 99 (3 * r))) (iI (rd h 99 (3 * r + 1))) (iI (rd h 99 (3 * r + 2))) post := by
    intro h1 f1 ht hc hno
    obtain ⟨x', y', u', bx, by', bu, ht⟩ := ht
    have e94 : rd h1 94 = rd h 94 := f1.row (by decide)
    have e100 : rd h1 100 = rd h 100 := f1.row (by decide)
    have ew : whyT (rd h 94) (rd h 99) (rd h 100) r how hr = why2 (rd h1 94) (rd h1 99) (rd h1 100) r hr := by
      unfold whyT
      rw [ite_t c1, ite_f hno, e94, e100, hc]
    rw [ew] at k0 k
    refine m_moves126 (M.fr f1) (by rw [e94]; exact hSS) hr0 (by rw [e94]; exact hr2) hh hh' (fun o o1 o2 => ?_) (fun o o1 o2 => by rw [e100]; rw [e94] at o2; exact hZ o o1 o2) ⟨by omega, by omega⟩ ⟨by omega, by omega⟩ ⟨by omega, by omega⟩ (fun e => ?_) (fun h' e f' et => ?_)
    · rw [e94] at o2
      rw [ht]
      by_cases co : o = r
      · subst co
        exact tr3_P1 bx by' bu
      · exact tr3_P1n co (hP o o1 o2)
    · exact k0 h1 e f1 hc
    · refine k h' e (f1.trans f') ?_
      rw [et, ht, tr3_back]
  by_cases c4 : how = 4
  · rw [ite_t c4]
    subst c4
    refine m_turns M hSS hr0 hr2 ⟨⟨p1, p2⟩, ⟨p3, p4⟩, p5, p6⟩ hZr (fun ep => ?_) (fun h1 ep f1 e1 => ?_)
    · simp (disch := omega) only [-Int.reduceToNat, -Int32.reduceToNatClampNeg, il0, il1, il2, il3, il4, il5, il6, il7, il8, il9, il10, il11, il12, il13, il14, il15, il16, il17, il18, il19, il20, il21, il22, il23, il24, il25, il26, il27, il28, il29, il30, il31, il32, il35, il36, il38, il40, il42, il43, il44, il45, il46, il47, il48, il49, il50, il51, il52, il57, il59, il60, il63, il64, il75, il80, il95, il96, il97, il98, il99, il100, il120, il122, il123, il127, il128, il135, il167, il175, il225, il249, il250, il255, il256, il360, il370, il384, il600, il700, il740, il900, il940, il1024, il1600, il4800, il64000, il125000, il262143, il1000000000, iI_toInt, iI_add, iI_sub, iI_mul, iI_neg, iI_lt, iI_le, iI_eq, iI_n, iI_in, iI_div, iI_mod, iI_shm, iI_and1, iI_and7, iI_and63, iI_shr3, iI_shr6, rd_I, ob, Option.some.injEq, exists_eq_left', exists_eq_left, true_and, and_true, fqI, fqJ, eq_self, true_or, or_true, bP_0, bP_0i, npP, bP_1i, bP_b, not_true_eq_false, not_false_eq_true, false_implies, true_implies, implies_true, Classical.not_not, and_self, cP, cP', ite_n, ite_T, ite_F, ite_t, ite_f]
      have e : whyT (rd h 94) (rd h 99) (rd h 100) r 4 hr = 2 := by unfold whyT; rw [ite_t c1, ite_t ⟨rfl, ep⟩]
      rw [e] at k
      exact k h (by omega) same rfl
    · unfold wb_X12_moves_60
      simp (disch := omega) only [MSh.o0 M, MSh.p1 M, MSh.o1 M, MSh.l1 M, MSh.p6 M, MSh.o2 M, MSh.l2 M, MSh.p7 M, MSh.o3 M, MSh.l3 M, MSh.p8 M, MSh.o4 M, MSh.l4 M, MSh.p9 M, MSh.o5 M, MSh.l5 M, MSh.p10 M, MSh.o6 M, MSh.l6 M, MSh.p24 M, MSh.o7 M, MSh.l7 M, MSh.p25 M, MSh.o8 M, MSh.l8 M, MSh.p26 M, MSh.o9 M, MSh.l9 M, MSh.p32 M, MSh.o10 M, MSh.l10 M, MSh.p33 M, MSh.o11 M, MSh.l11 M, MSh.p35 M, MSh.o12 M, MSh.l12 M, MSh.p36 M, MSh.o13 M, MSh.l13 M, MSh.p37 M, MSh.o14 M, MSh.l14 M, MSh.p38 M, MSh.o15 M, MSh.l15 M, MSh.p39 M, MSh.o16 M, MSh.l16 M, MSh.p42 M, MSh.o17 M, MSh.l17 M, MSh.p43 M, MSh.o18 M, MSh.l18 M, MSh.p44 M, MSh.o19 M, MSh.l19 M, MSh.p45 M, MSh.o20 M, MSh.l20 M, MSh.p46 M, MSh.o21 M, MSh.l21 M, MSh.p47 M, MSh.o22 M, MSh.l22 M, MSh.p50 M, MSh.o23 M, MSh.l23 M, MSh.p51 M, MSh.o24 M, MSh.l24 M, MSh.p52 M, MSh.o25 M, MSh.l25 M, -Int.reduceToNat, -Int32.reduceToNatClampNeg, il0, il1, il2, il3, il4, il5, il6, il7, il8, il9, il10, il11, il12, il13, il14, il15, il16, il17, il18, il19, il20, il21, il22, il23, il24, il25, il26, il27, il28, il29, il30, il31, il32, il35, il36, il38, il40, il42, il43, il44, il45, il46, il47, il48, il49, il50, il51, il52, il57, il59, il60, il63, il64, il75, il80, il95, il96, il97, il98, il99, il100, il120, il122, il123, il127, il128, il135, il167, il175, il225, il249, il250, il255, il256, il360, il370, il384, il600, il700, il740, il900, il940, il1024, il1600, il4800, il64000, il125000, il262143, il1000000000, iI_toInt, iI_add, iI_sub, iI_mul, iI_neg, iI_lt, iI_le, iI_eq, iI_n, iI_in, iI_div, iI_mod, iI_shm, iI_and1, iI_and7, iI_and63, iI_shr3, iI_shr6, rd_I, ob, Option.some.injEq, exists_eq_left', exists_eq_left, true_and, and_true, fqI, fqJ, eq_self, true_or, or_true, bP_0, bP_0i, npP, bP_1i, bP_b, not_true_eq_false, not_false_eq_true, false_implies, true_implies, implies_true, Classical.not_not, and_self, cP, cP', ite_n, ite_T, ite_F, ite_t, ite_f]
      have hsp := fstI_spec (P := fun k => onT (rd h 99) (rd h 100) r (rd h 94 (123 + 2 * k)) (rd h 94 (123 + 2 * k + 1))) (rd h 94 3).toNat 0 (by omega)
      rcases hsp with ⟨q, -⟩ | ⟨q1, q2, q3, -⟩
      · exact absurd q ep
      have s3 := hS0 3 (by omega) (by omega)
      obtain ⟨o1, o2, o3, o4⟩ := q3
      refine go h1 f1 ⟨_, _, _, ?_, ?_, ?_, e1⟩ (by unfold candT; rw [if_pos rfl]; exact e1) (fun q => ep q.2)
      · show -300 ≤ rd h 94 (123 + 2 * polT (rd h 94) (rd h 99) (rd h 100) r) - _ ∧ _
        unfold polT
        constructor <;> omega
      · unfold polT
        constructor <;> omega
      · split <;> omega
  · rw [ite_f c4]
    unfold wb_X12_moves_60
    simp (disch := omega) only [MSh.o0 M, MSh.p1 M, MSh.o1 M, MSh.l1 M, MSh.p6 M, MSh.o2 M, MSh.l2 M, MSh.p7 M, MSh.o3 M, MSh.l3 M, MSh.p8 M, MSh.o4 M, MSh.l4 M, MSh.p9 M, MSh.o5 M, MSh.l5 M, MSh.p10 M, MSh.o6 M, MSh.l6 M, MSh.p24 M, MSh.o7 M, MSh.l7 M, MSh.p25 M, MSh.o8 M, MSh.l8 M, MSh.p26 M, MSh.o9 M, MSh.l9 M, MSh.p32 M, MSh.o10 M, MSh.l10 M, MSh.p33 M, MSh.o11 M, MSh.l11 M, MSh.p35 M, MSh.o12 M, MSh.l12 M, MSh.p36 M, MSh.o13 M, MSh.l13 M, MSh.p37 M, MSh.o14 M, MSh.l14 M, MSh.p38 M, MSh.o15 M, MSh.l15 M, MSh.p39 M, MSh.o16 M, MSh.l16 M, MSh.p42 M, MSh.o17 M, MSh.l17 M, MSh.p43 M, MSh.o18 M, MSh.l18 M, MSh.p44 M, MSh.o19 M, MSh.l19 M, MSh.p45 M, MSh.o20 M, MSh.l20 M, MSh.p46 M, MSh.o21 M, MSh.l21 M, MSh.p47 M, MSh.o22 M, MSh.l22 M, MSh.p50 M, MSh.o23 M, MSh.l23 M, MSh.p51 M, MSh.o24 M, MSh.l24 M, MSh.p52 M, MSh.o25 M, MSh.l25 M, -Int.reduceToNat, -Int32.reduceToNatClampNeg, il0, il1, il2, il3, il4, il5, il6, il7, il8, il9, il10, il11, il12, il13, il14, il15, il16, il17, il18, il19, il20, il21, il22, il23, il24, il25, il26, il27, il28, il29, il30, il31, il32, il35, il36, il38, il40, il42, il43, il44, il45, il46, il47, il48, il49, il50, il51, il52, il57, il59, il60, il63, il64, il75, il80, il95, il96, il97, il98, il99, il100, il120, il122, il123, il127, il128, il135, il167, il175, il225, il249, il250, il255, il256, il360, il370, il384, il600, il700, il740, il900, il940, il1024, il1600, il4800, il64000, il125000, il262143, il1000000000, iI_toInt, iI_add, iI_sub, iI_mul, iI_neg, iI_lt, iI_le, iI_eq, iI_n, iI_in, iI_div, iI_mod, iI_shm, iI_and1, iI_and7, iI_and63, iI_shr3, iI_shr6, rd_I, ob, Option.some.injEq, exists_eq_left', exists_eq_left, true_and, and_true, fqI, fqJ, eq_self, true_or, or_true, bP_0, bP_0i, npP, bP_1i, bP_b, not_true_eq_false, not_false_eq_true, false_implies, true_implies, implies_true, Classical.not_not, and_self, cP, cP', ite_n, ite_T, ite_F, ite_t, ite_f]
    have dx := dx_bd how
    have dy := dy_bd how
    have sl : ∀ h2, Fr [99] [] [] h h2 → rd h2 99 = sldT (rd h 99) r how → wb_X12_moves_126 h2 92 (iI r) (iI hr) (iI (rd h 99 (3 * r))) (iI (rd h 99 (3 * r + 1))) (iI (rd h 99 (3 * r + 2))) post := by
      intro h2 f2 e2
      exact go h2 f2 ⟨_, _, _, ⟨by omega, by omega⟩, ⟨by omega, by omega⟩, ⟨p5, p6⟩, e2⟩ (by unfold candT; rw [if_neg c4]; exact e2) (fun q => c4 q.1)
    have := m_slide (hr := hr) (x := rd h 99 (3 * r)) (y := rd h 99 (3 * r + 1)) (u := rd h 99 (3 * r + 2)) M hr0 r8 ⟨⟨p1, p2⟩, ⟨p3, p4⟩, p5, p6⟩ h3 (by omega) sl
    by_cases d1 : how = 1
    · rw [show dxS how = 1 by unfold dxS; rw [if_pos d1]] at this
      rw [ite_t d1]
      exact this
    · rw [ite_f d1]
      by_cases d3 : how = 3
      · rw [show dxS how = -1 by unfold dxS; rw [if_neg d1, if_pos d3]] at this
        rw [ite_t d3]
        exact this
      · rw [show dxS how = 0 by unfold dxS; rw [if_neg d1, if_neg d3]] at this
        rw [ite_f d3]
        exact this
end MMOVES
