/-! the model's town laid anew -/
def tr3 (t : Int → Int) (r x y u : Int) : Int → Int := updT (updT (updT t (3 * r) x) (3 * r + 1) y) (3 * r + 2) u
theorem tr3_0 (t : Int → Int) (r x y u : Int) : tr3 t r x y u (3 * r) = x := by
  unfold tr3
  rw [updT_n (by omega), updT_n (by omega), updT_s]
theorem tr3_1 (t : Int → Int) (r x y u : Int) : tr3 t r x y u (3 * r + 1) = y := by
  unfold tr3
  rw [updT_n (by omega), updT_s]
theorem tr3_2 (t : Int → Int) (r x y u : Int) : tr3 t r x y u (3 * r + 2) = u := by
  unfold tr3
  rw [updT_s]
theorem tr3_n {t : Int → Int} {r x y u j : Int} (h : j < 3 * r ∨ 3 * r + 2 < j) : tr3 t r x y u j = t j := by
  unfold tr3
  rw [updT_n (by omega), updT_n (by omega), updT_n (by omega)]
section MWRITE
variable {h : AH} {a b c d r x y n hr w u : Int}
theorem m_asItIs {post : AH → Prop} (M : MSh h) (k : ∀ h', Fr [99, 100] [] [] h h' → (∀ i, 0 ≤ i → i < 24 → rd h' 99 i = rd h 94 (225 + i)) → (∀ i, 0 ≤ i → i < 24 → rd h' 100 i = rd h 94 (99 + i)) → post h') : wp_X12_asItIs h 92 post := by
  unfold wp_X12_asItIs
  refine lf_for (W := fun n (b : AH) i => wl_X12_asItIs_2 post n b 92 (iI i)) (lo := 0) (hi := 24) (fun i b => Fr [99, 100] [] [] h b ∧ (∀ j, 0 ≤ j → j < i → rd b 99 j = rd h 94 (225 + j)) ∧ (∀ j, 0 ≤ j → j < i → rd b 100 j = rd h 94 (99 + j))) (by omega) ?_ ?_ h
    ⟨(Fr.refl h).mono (by simp) (by simp) (by simp), fun j j1 j2 => by omega, fun j j1 j2 => by omega⟩
  · intro n b i i1 i2 hb kk
    obtain ⟨f, t1, z1⟩ := hb
    have Mb := M.fr f
    show wb_X12_asItIs_2 (wl_X12_asItIs_2 post n) b 92 (iI i) post
    unfold wb_X12_asItIs_2
    simp (disch := omega) only [MSh.o0 Mb, MSh.p1 Mb, MSh.o1 Mb, MSh.l1 Mb, MSh.p6 Mb, MSh.o2 Mb, MSh.l2 Mb, MSh.p7 Mb, MSh.o3 Mb, MSh.l3 Mb, MSh.p8 Mb, MSh.o4 Mb, MSh.l4 Mb, MSh.p9 Mb, MSh.o5 Mb, MSh.l5 Mb, MSh.p10 Mb, MSh.o6 Mb, MSh.l6 Mb, MSh.p24 Mb, MSh.o7 Mb, MSh.l7 Mb, MSh.p25 Mb, MSh.o8 Mb, MSh.l8 Mb, MSh.p26 Mb, MSh.o9 Mb, MSh.l9 Mb, MSh.p32 Mb, MSh.o10 Mb, MSh.l10 Mb, MSh.p33 Mb, MSh.o11 Mb, MSh.l11 Mb, MSh.p35 Mb, MSh.o12 Mb, MSh.l12 Mb, MSh.p36 Mb, MSh.o13 Mb, MSh.l13 Mb, MSh.p37 Mb, MSh.o14 Mb, MSh.l14 Mb, MSh.p38 Mb, MSh.o15 Mb, MSh.l15 Mb, MSh.p39 Mb, MSh.o16 Mb, MSh.l16 Mb, MSh.p42 Mb, MSh.o17 Mb, MSh.l17 Mb, MSh.p43 Mb, MSh.o18 Mb, MSh.l18 Mb, MSh.p44 Mb, MSh.o19 Mb, MSh.l19 Mb, MSh.p45 Mb, MSh.o20 Mb, MSh.l20 Mb, MSh.p46 Mb, MSh.o21 Mb, MSh.l21 Mb, MSh.p47 Mb, MSh.o22 Mb, MSh.l22 Mb, MSh.p50 Mb, MSh.o23 Mb, MSh.l23 Mb, MSh.p51 Mb, MSh.o24 Mb, MSh.l24 Mb, MSh.p52 Mb, MSh.o25 Mb, MSh.l25 Mb, -Int.reduceToNat, -Int32.reduceToNatClampNeg, il0, il1, il2, il3, il4, il5, il6, il7, il8, il9, il10, il11, il12, il13, il14, il15, il16, il17, il18, il19, il20, il21, il22, il23, il24, il25, il26, il27, il28, il29, il30, il31, il32, il35, il36, il38, il40, il42, il43, il44, il45, il46, il47, il48, il49, il50, il51, il52, il57, il59, il60, il63, il64, il75, il80, il95, il96, il97, il98, il99, il100, il120, il122, il123, il127, il128, il135, il167, il175, il225, il249, il250, il255, il256, il360, il370, il384, il600, il700, il740, il900, il940, il1024, il1600, il4800, il64000, il125000, il262143, il1000000000, iI_toInt, iI_add, iI_sub, iI_mul, iI_neg, iI_lt, iI_le, iI_eq, iI_n, iI_in, iI_div, iI_mod, iI_shm, iI_and1, iI_and7, iI_and63, iI_shr3, iI_shr6, rd_I, ob, Option.some.injEq, exists_eq_left', exists_eq_left, true_and, and_true, fqI, fqJ, eq_self, true_or, or_true, bP_0, bP_0i, npP, bP_1i, bP_b, not_true_eq_false, not_false_eq_true, false_implies, true_implies, implies_true, Classical.not_not, and_self, cP, cP', ite_n, ite_T, ite_F, ite_t, ite_f]
    intro h3 e3
    have q := rd_bd b 94 (225 + i)
    obtain ⟨f3, r3⟩ := wI (by omega) q.1 q.2 e3
    have M3 := Mb.fr f3
    simp (disch := omega) only [MSh.o0 M3, MSh.p1 M3, MSh.o1 M3, MSh.l1 M3, MSh.p6 M3, MSh.o2 M3, MSh.l2 M3, MSh.p7 M3, MSh.o3 M3, MSh.l3 M3, MSh.p8 M3, MSh.o4 M3, MSh.l4 M3, MSh.p9 M3, MSh.o5 M3, MSh.l5 M3, MSh.p10 M3, MSh.o6 M3, MSh.l6 M3, MSh.p24 M3, MSh.o7 M3, MSh.l7 M3, MSh.p25 M3, MSh.o8 M3, MSh.l8 M3, MSh.p26 M3, MSh.o9 M3, MSh.l9 M3, MSh.p32 M3, MSh.o10 M3, MSh.l10 M3, MSh.p33 M3, MSh.o11 M3, MSh.l11 M3, MSh.p35 M3, MSh.o12 M3, MSh.l12 M3, MSh.p36 M3, MSh.o13 M3, MSh.l13 M3, MSh.p37 M3, MSh.o14 M3, MSh.l14 M3, MSh.p38 M3, MSh.o15 M3, MSh.l15 M3, MSh.p39 M3, MSh.o16 M3, MSh.l16 M3, MSh.p42 M3, MSh.o17 M3, MSh.l17 M3, MSh.p43 M3, MSh.o18 M3, MSh.l18 M3, MSh.p44 M3, MSh.o19 M3, MSh.l19 M3, MSh.p45 M3, MSh.o20 M3, MSh.l20 M3, MSh.p46 M3, MSh.o21 M3, MSh.l21 M3, MSh.p47 M3, MSh.o22 M3, MSh.l22 M3, MSh.p50 M3, MSh.o23 M3, MSh.l23 M3, MSh.p51 M3, MSh.o24 M3, MSh.l24 M3, MSh.p52 M3, MSh.o25 M3, MSh.l25 M3, -Int.reduceToNat, -Int32.reduceToNatClampNeg, il0, il1, il2, il3, il4, il5, il6, il7, il8, il9, il10, il11, il12, il13, il14, il15, il16, il17, il18, il19, il20, il21, il22, il23, il24, il25, il26, il27, il28, il29, il30, il31, il32, il35, il36, il38, il40, il42, il43, il44, il45, il46, il47, il48, il49, il50, il51, il52, il57, il59, il60, il63, il64, il75, il80, il95, il96, il97, il98, il99, il100, il120, il122, il123, il127, il128, il135, il167, il175, il225, il249, il250, il255, il256, il360, il370, il384, il600, il700, il740, il900, il940, il1024, il1600, il4800, il64000, il125000, il262143, il1000000000, iI_toInt, iI_add, iI_sub, iI_mul, iI_neg, iI_lt, iI_le, iI_eq, iI_n, iI_in, iI_div, iI_mod, iI_shm, iI_and1, iI_and7, iI_and63, iI_shr3, iI_shr6, rd_I, ob, Option.some.injEq, exists_eq_left', exists_eq_left, true_and, and_true, fqI, fqJ, eq_self, true_or, or_true, bP_0, bP_0i, npP, bP_1i, bP_b, not_true_eq_false, not_false_eq_true, false_implies, true_implies, implies_true, Classical.not_not, and_self, cP, cP', ite_n, ite_T, ite_F, ite_t, ite_f]
    intro h6 e6
    have q6 := rd_bd h3 94 (99 + i)
    obtain ⟨f6, r6⟩ := wI (by omega) q6.1 q6.2 e6
    have g3 : Fr [99, 100] [] [] b h3 := f3.mono (by simp) (by simp) (by simp)
    have g6 : Fr [99, 100] [] [] h3 h6 := f6.mono (by simp) (by simp) (by simp)
    refine kk h6 ⟨f.trans (g3.trans g6), fun j j1 j2 => ?_, fun j j1 j2 => ?_⟩
    · rw [f6.row (by decide), r3]
      by_cases c : j = i
      · subst c
        rw [updT_s, f.row (by decide)]
      · rw [updT_n c, t1 j j1 (by omega)]
    · rw [r6]
      by_cases c : j = i
      · subst c
        rw [updT_s, f3.row (by decide), f.row (by decide)]
      · rw [updT_n c, f3.row (by decide), z1 j j1 (by omega)]
  · intro n b hb
    show wb_X12_asItIs_2 (wl_X12_asItIs_2 post n) b 92 (iI 24) post
    unfold wb_X12_asItIs_2
    simp (disch := omega) only [-Int.reduceToNat, -Int32.reduceToNatClampNeg, il0, il1, il2, il3, il4, il5, il6, il7, il8, il9, il10, il11, il12, il13, il14, il15, il16, il17, il18, il19, il20, il21, il22, il23, il24, il25, il26, il27, il28, il29, il30, il31, il32, il35, il36, il38, il40, il42, il43, il44, il45, il46, il47, il48, il49, il50, il51, il52, il57, il59, il60, il63, il64, il75, il80, il95, il96, il97, il98, il99, il100, il120, il122, il123, il127, il128, il135, il167, il175, il225, il249, il250, il255, il256, il360, il370, il384, il600, il700, il740, il900, il940, il1024, il1600, il4800, il64000, il125000, il262143, il1000000000, iI_toInt, iI_add, iI_sub, iI_mul, iI_neg, iI_lt, iI_le, iI_eq, iI_n, iI_in, iI_div, iI_mod, iI_shm, iI_and1, iI_and7, iI_and63, iI_shr3, iI_shr6, rd_I, ob, Option.some.injEq, exists_eq_left', exists_eq_left, true_and, and_true, fqI, fqJ, eq_self, true_or, or_true, bP_0, bP_0i, npP, bP_1i, bP_b, not_true_eq_false, not_false_eq_true, false_implies, true_implies, implies_true, Classical.not_not, and_self, cP, cP', ite_n, ite_T, ite_F, ite_t, ite_f]
    exact k b hb.1 hb.2.1 hb.2.2
theorem m_keepTown {post : AH → Prop} (M : MSh h) (k : ∀ h', Fr [94] [] [] h h' → (∀ i, 0 ≤ i → i < 24 → rd h' 94 (225 + i) = rd h 99 i) → (∀ i, i < 225 ∨ 249 ≤ i → rd h' 94 i = rd h 94 i) → post h') : wp_X12_keepTown h 92 post := by
  unfold wp_X12_keepTown
  refine lf_for (W := fun n (b : AH) i => wl_X12_keepTown_2 post n b 92 (iI i)) (lo := 0) (hi := 24) (fun i b => Fr [94] [] [] h b ∧ (∀ j, 0 ≤ j → j < i → rd b 94 (225 + j) = rd h 99 j) ∧ (∀ j, j < 225 ∨ 249 ≤ j → rd b 94 j = rd h 94 j)) (by omega) ?_ ?_ h
    ⟨(Fr.refl h).mono (by simp) (by simp) (by simp), fun j j1 j2 => by omega, fun j _ => rfl⟩
  · intro n b i i1 i2 hb kk
    obtain ⟨f, t1, z1⟩ := hb
    have Mb := M.fr f
    show wb_X12_keepTown_2 (wl_X12_keepTown_2 post n) b 92 (iI i) post
    unfold wb_X12_keepTown_2
    simp (disch := omega) only [MSh.o0 Mb, MSh.p1 Mb, MSh.o1 Mb, MSh.l1 Mb, MSh.p6 Mb, MSh.o2 Mb, MSh.l2 Mb, MSh.p7 Mb, MSh.o3 Mb, MSh.l3 Mb, MSh.p8 Mb, MSh.o4 Mb, MSh.l4 Mb, MSh.p9 Mb, MSh.o5 Mb, MSh.l5 Mb, MSh.p10 Mb, MSh.o6 Mb, MSh.l6 Mb, MSh.p24 Mb, MSh.o7 Mb, MSh.l7 Mb, MSh.p25 Mb, MSh.o8 Mb, MSh.l8 Mb, MSh.p26 Mb, MSh.o9 Mb, MSh.l9 Mb, MSh.p32 Mb, MSh.o10 Mb, MSh.l10 Mb, MSh.p33 Mb, MSh.o11 Mb, MSh.l11 Mb, MSh.p35 Mb, MSh.o12 Mb, MSh.l12 Mb, MSh.p36 Mb, MSh.o13 Mb, MSh.l13 Mb, MSh.p37 Mb, MSh.o14 Mb, MSh.l14 Mb, MSh.p38 Mb, MSh.o15 Mb, MSh.l15 Mb, MSh.p39 Mb, MSh.o16 Mb, MSh.l16 Mb, MSh.p42 Mb, MSh.o17 Mb, MSh.l17 Mb, MSh.p43 Mb, MSh.o18 Mb, MSh.l18 Mb, MSh.p44 Mb, MSh.o19 Mb, MSh.l19 Mb, MSh.p45 Mb, MSh.o20 Mb, MSh.l20 Mb, MSh.p46 Mb, MSh.o21 Mb, MSh.l21 Mb, MSh.p47 Mb, MSh.o22 Mb, MSh.l22 Mb, MSh.p50 Mb, MSh.o23 Mb, MSh.l23 Mb, MSh.p51 Mb, MSh.o24 Mb, MSh.l24 Mb, MSh.p52 Mb, MSh.o25 Mb, MSh.l25 Mb, -Int.reduceToNat, -Int32.reduceToNatClampNeg, il0, il1, il2, il3, il4, il5, il6, il7, il8, il9, il10, il11, il12, il13, il14, il15, il16, il17, il18, il19, il20, il21, il22, il23, il24, il25, il26, il27, il28, il29, il30, il31, il32, il35, il36, il38, il40, il42, il43, il44, il45, il46, il47, il48, il49, il50, il51, il52, il57, il59, il60, il63, il64, il75, il80, il95, il96, il97, il98, il99, il100, il120, il122, il123, il127, il128, il135, il167, il175, il225, il249, il250, il255, il256, il360, il370, il384, il600, il700, il740, il900, il940, il1024, il1600, il4800, il64000, il125000, il262143, il1000000000, iI_toInt, iI_add, iI_sub, iI_mul, iI_neg, iI_lt, iI_le, iI_eq, iI_n, iI_in, iI_div, iI_mod, iI_shm, iI_and1, iI_and7, iI_and63, iI_shr3, iI_shr6, rd_I, ob, Option.some.injEq, exists_eq_left', exists_eq_left, true_and, and_true, fqI, fqJ, eq_self, true_or, or_true, bP_0, bP_0i, npP, bP_1i, bP_b, not_true_eq_false, not_false_eq_true, false_implies, true_implies, implies_true, Classical.not_not, and_self, cP, cP', ite_n, ite_T, ite_F, ite_t, ite_f]
    intro h3 e3
    have q := rd_bd b 99 i
    obtain ⟨f3, r3⟩ := wI (by omega) q.1 q.2 e3
    refine kk h3 ⟨f.trans f3, fun j j1 j2 => ?_, fun j j1 => ?_⟩
    · rw [r3]
      by_cases c : j = i
      · subst c
        rw [updT_s, f.row (by decide)]
      · rw [updT_n (by omega), t1 j j1 (by omega)]
    · rw [r3, updT_n (by omega), z1 j j1]
  · intro n b hb
    show wb_X12_keepTown_2 (wl_X12_keepTown_2 post n) b 92 (iI 24) post
    unfold wb_X12_keepTown_2
    simp (disch := omega) only [-Int.reduceToNat, -Int32.reduceToNatClampNeg, il0, il1, il2, il3, il4, il5, il6, il7, il8, il9, il10, il11, il12, il13, il14, il15, il16, il17, il18, il19, il20, il21, il22, il23, il24, il25, il26, il27, il28, il29, il30, il31, il32, il35, il36, il38, il40, il42, il43, il44, il45, il46, il47, il48, il49, il50, il51, il52, il57, il59, il60, il63, il64, il75, il80, il95, il96, il97, il98, il99, il100, il120, il122, il123, il127, il128, il135, il167, il175, il225, il249, il250, il255, il256, il360, il370, il384, il600, il700, il740, il900, il940, il1024, il1600, il4800, il64000, il125000, il262143, il1000000000, iI_toInt, iI_add, iI_sub, iI_mul, iI_neg, iI_lt, iI_le, iI_eq, iI_n, iI_in, iI_div, iI_mod, iI_shm, iI_and1, iI_and7, iI_and63, iI_shr3, iI_shr6, rd_I, ob, Option.some.injEq, exists_eq_left', exists_eq_left, true_and, and_true, fqI, fqJ, eq_self, true_or, or_true, bP_0, bP_0i, npP, bP_1i, bP_b, not_true_eq_false, not_false_eq_true, false_implies, true_implies, implies_true, Classical.not_not, and_self, cP, cP', ite_n, ite_T, ite_F, ite_t, ite_f]
    exact k b hb.1 hb.2.1 hb.2.2
end MWRITE
