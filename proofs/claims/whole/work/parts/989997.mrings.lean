/-! the model looks for TOWNS -/
def MB (h0 h : AH) (s t0 z : Int → Int) (S : BS) : Prop := (MSh h) ∧ (Fr [92, 99, 104, 105, 106, 107] [] [] h0 h) ∧ (rd h 94 = s) ∧ (rd h 100 = z) ∧ (∀ j, j < 0 ∨ 3 * s 2 ≤ j → rd h 99 j = t0 j) ∧ (MRp h 104 105 106 107 125000 S) ∧ (rd h 92 41 = S.1) ∧ (∀ j, j ≠ 41 → rd h 92 j = rd h0 92 j)
theorem MB.MM {h0 h : AH} {s t0 z : Int → Int} {S : BS} (R : MB h0 h s t0 z S) : MSh h := R.1
theorem MB.FF {h0 h : AH} {s t0 z : Int → Int} {S : BS} (R : MB h0 h s t0 z S) : Fr [92, 99, 104, 105, 106, 107] [] [] h0 h := R.2.1
theorem MB.s94 {h0 h : AH} {s t0 z : Int → Int} {S : BS} (R : MB h0 h s t0 z S) : rd h 94 = s := R.2.2.1
theorem MB.z10 {h0 h : AH} {s t0 z : Int → Int} {S : BS} (R : MB h0 h s t0 z S) : rd h 100 = z := R.2.2.2.1
theorem MB.t99 {h0 h : AH} {s t0 z : Int → Int} {S : BS} (R : MB h0 h s t0 z S) : ∀ j, j < 0 ∨ 3 * s 2 ≤ j → rd h 99 j = t0 j := R.2.2.2.2.1
theorem MB.P {h0 h : AH} {s t0 z : Int → Int} {S : BS} (R : MB h0 h s t0 z S) : MRp h 104 105 106 107 125000 S := R.2.2.2.2.2.1
theorem MB.q41 {h0 h : AH} {s t0 z : Int → Int} {S : BS} (R : MB h0 h s t0 z S) : rd h 92 41 = S.1 := R.2.2.2.2.2.2.1
theorem MB.r92 {h0 h : AH} {s t0 z : Int → Int} {S : BS} (R : MB h0 h s t0 z S) : ∀ j, j ≠ 41 → rd h 92 j = rd h0 92 j := R.2.2.2.2.2.2.2
section MRI
variable {h h1 h2 h' h0 g0 g : AH} {postV : AH → Prop} {post : AH → Int32 → Prop} {a b c d f i j k v w x y pl r hr how gl goal most st u p o : Int} {s t t' t0 z T : Int → Int} {S : BS}
theorem tuB_cg (e : ∀ j, j < 0 ∨ 3 * s 2 ≤ j → t j = t0 j) : tuB s t v = tuB s t0 v := by
  funext j
  unfold tuB
  by_cases c : 0 ≤ j ∧ j < 3 * s 2
  · rw [if_pos c, if_pos c]
  · rw [if_neg c, if_neg c]; exact e j (by omega)
theorem VB.s0 (gs : GS s) (e : EZ z s) (hv : VB s t0 z v) : 0 < s 2 → 1 ≤ s 0 := fun h2 => by
  obtain ⟨Sp, In, _⟩ := hv.2 0 (by omega) h2
  have w := wd_Z Sp.P1 (Z1s gs e 0 (by omega) h2)
  have a := In.1
  have b := In.2.2.1
  omega
theorem MB.act (A : MB h0 h s t0 z S) (I : BI (VB s t0 z) 0 (5 * s 2) S) (gs : GS s) (fw : few s) (e : EZ z s) (r0 : 0 ≤ r) (r1 : r < s 2) (hh : 0 ≤ hr ∧ hr < 24) (ho : 0 ≤ how ∧ how < 5) (hi : 0 ≤ i ∧ i < S.1) {K58 : AH → Nat → Int32 → Int32 → Int32 → Int32 → Prop} {K104 : AH → Nat → Int32 → Int32 → Int32 → Int32 → Int32 → Int32 → Prop} {K118 : AH → Nat → Int32 → Int32 → Int32 → Int32 → Int32 → Int32 → Int32 → Prop} (K : ∀ h', MB h0 h' s t0 z (bAct (nxB s t0 z hr) i (5 * r + how) S) → K118 h' 92 (iI hr) (iI most) (iI goal) (iI i) (iI (S.2.1 i)) (iI r) (iI (how + 1))) :
    wb_X12_rings_118 K58 K104 K118 h 92 (iI hr) (iI most) (iI goal) (iI i) (iI (S.2.1 i)) (iI r) (iI how) postV := by
  have n2 : s 2 ≤ 8 := gs.1.2.2.2.1
  have n0 : s 0 ≤ 8 := gs.1.2.1
  have n1 : s 1 ≤ 8 := gs.1.2.2.1
  have b2 := gs.1.1 2 (by omega) (by omega)
  have f3 := fw.1
  have hZ := Z1s gs e
  have vi := I.2.1 i hi.1 hi.2
  have vb := rg_b vi.1
  have t64 := I.le64 gs fw e
  have t1 := I.1
  have s0 := vi.s0 gs e
  obtain ⟨M, FF, s94, z10, t99, P, q41, r92⟩ := A
  have a5 : (5 * r + how) / 5 = r := by omega
  have a6 : (5 * r + how) % 5 = how := by omega
  unfold wb_X12_rings_118 wb_X12_rings_225
  simp (disch := omega) only [MSh.o0 M, MSh.p1 M, MSh.o1 M, MSh.l1 M, MSh.p6 M, MSh.o2 M, MSh.l2 M, MSh.p7 M, MSh.o3 M, MSh.l3 M, MSh.p8 M, MSh.o4 M, MSh.l4 M, MSh.p9 M, MSh.o5 M, MSh.l5 M, MSh.p10 M, MSh.o6 M, MSh.l6 M, MSh.p24 M, MSh.o7 M, MSh.l7 M, MSh.p25 M, MSh.o8 M, MSh.l8 M, MSh.p26 M, MSh.o9 M, MSh.l9 M, MSh.p32 M, MSh.o10 M, MSh.l10 M, MSh.p33 M, MSh.o11 M, MSh.l11 M, MSh.p35 M, MSh.o12 M, MSh.l12 M, MSh.p36 M, MSh.o13 M, MSh.l13 M, MSh.p37 M, MSh.o14 M, MSh.l14 M, MSh.p38 M, MSh.o15 M, MSh.l15 M, MSh.p39 M, MSh.o16 M, MSh.l16 M, MSh.p42 M, MSh.o17 M, MSh.l17 M, MSh.p43 M, MSh.o18 M, MSh.l18 M, MSh.p44 M, MSh.o19 M, MSh.l19 M, MSh.p45 M, MSh.o20 M, MSh.l20 M, MSh.p46 M, MSh.o21 M, MSh.l21 M, MSh.p47 M, MSh.o22 M, MSh.l22 M, MSh.p50 M, MSh.o23 M, MSh.l23 M, MSh.p51 M, MSh.o24 M, MSh.l24 M, MSh.p52 M, MSh.o25 M, MSh.l25 M, -Int.reduceToNat, -Int32.reduceToNatClampNeg, il0, il1, il2, il3, il4, il5, il6, il7, il8, il9, il10, il11, il12, il13, il14, il15, il16, il17, il18, il19, il20, il21, il22, il23, il24, il25, il26, il27, il28, il29, il30, il31, il32, il35, il36, il38, il40, il42, il43, il44, il45, il46, il47, il48, il49, il50, il51, il52, il57, il59, il60, il63, il64, il75, il80, il95, il96, il97, il98, il99, il100, il120, il122, il123, il127, il128, il135, il167, il175, il225, il249, il250, il255, il256, il360, il370, il384, il600, il700, il740, il900, il940, il1024, il1600, il4800, il64000, il125000, il262143, il1000000000, iI_toInt, iI_add, iI_sub, iI_mul, iI_neg, iI_lt, iI_le, iI_eq, iI_n, iI_in, iI_div, iI_mod, iI_shm, iI_and1, iI_and7, iI_and63, iI_shr3, iI_shr6, rd_I, ob, Option.some.injEq, exists_eq_left', exists_eq_left, true_and, and_true, fqI, fqJ, eq_self, true_or, or_true, bP_0, bP_0i, npP, bP_1i, bP_b, not_true_eq_false, not_false_eq_true, false_implies, true_implies, implies_true, Classical.not_not, and_self]
  refine ⟨fun u => by omega, fun _ => m_unfold M s94 rfl b2.1 f3 s0 n0 vb fun g1 f1 r1' => ?_⟩
  have M1 := M.gr f1.gr
  have e99 : rd g1 99 = tuB s t0 (S.2.1 i) := by rw [r1']; exact tuB_cg t99
  have d94 : rd g1 94 = s := by rw [f1.row (by simp)]; exact s94
  have d100 : rd g1 100 = z := by rw [f1.row (by simp)]; exact z10
  have out : ∀ {g}, Fr [99] [] [] h g → (∀ j, j < 0 ∨ 3 * s 2 ≤ j → rd g 99 j = t0 j) → MB h0 g s t0 z S := fun {g} f u => ⟨M.gr f.gr, FF.trans (f.mono (by simp) (by simp) (by simp)), by rw [f.row (by simp)]; exact s94, by rw [f.row (by simp)]; exact z10, u, P.cg (f.row (by simp)) (f.row (by simp)) (f.row (by simp)) (f.row (by simp)), by rw [f.row (by simp)]; exact q41, fun j hj => by rw [f.row (by simp)]; exact r92 j hj⟩
  refine ⟨M1.o0, m_moves M1 (by rw [d94]; exact gs.1) r0 (by rw [d94]; exact r1) ho.1 (by omega) hh.1 hh.2 (by rw [d94, e99]; exact fun o o0 o1 => (vi.2 o o0 o1).1.P1) (by rw [d94, d100]; exact hZ) (by rw [e99, d100]; exact in8_of n0 n1 (vi.2 r r0 r1).2.1) (fun g2 y0 f2 r2 => ?_) (fun g2 y0 f2 r2 => ?_)⟩
  · rw [d94, d100, e99] at y0 r2
    have M2 := M1.gr f2.gr
    obtain ⟨vn, tn, nx⟩ := nxB_V (t0 := t0) (v := S.2.1 i) (a := 5 * r + how) (hr := hr) gs fw e (by omega) (by omega) vi (by rw [a5, a6]; exact y0)
    rw [a5, a6] at tn nx
    have c94 : rd g2 94 = s := by rw [f2.row (by simp)]; exact d94
    have A2 := out (f1.trans f2) (fun j hj => by rw [r2, cand_n (by omega), tu_n hj])
    refine ⟨fun _ => ⟨M2.o0, m_code M2 c94 r2 b2.1 f3 ?_⟩, fun u => absurd (show iI 0 ≤ iI 0 by rw [iI_le (by omega) (by omega) (by omega) (by omega)]; omega) u⟩
    rw [← nx]
    generalize hw : nxB s t0 z hr (S.2.1 i) (5 * r + how) = w at vn tn nx
    have wb := rg_b vn.1
    have P2 := A2.P
    have rw9 := rd_bd g2 104 w
    have ri : rd g2 104 (S.2.1 i) = dpt S.2.2.1 i := P2.rg i hi.1 hi.2
    have db := dpt_bd I.fg i.toNat i (by omega) hi.1 hi.2
    simp (disch := omega) only [MSh.o0 M2, MSh.p1 M2, MSh.o1 M2, MSh.l1 M2, MSh.p6 M2, MSh.o2 M2, MSh.l2 M2, MSh.p7 M2, MSh.o3 M2, MSh.l3 M2, MSh.p8 M2, MSh.o4 M2, MSh.l4 M2, MSh.p9 M2, MSh.o5 M2, MSh.l5 M2, MSh.p10 M2, MSh.o6 M2, MSh.l6 M2, MSh.p24 M2, MSh.o7 M2, MSh.l7 M2, MSh.p25 M2, MSh.o8 M2, MSh.l8 M2, MSh.p26 M2, MSh.o9 M2, MSh.l9 M2, MSh.p32 M2, MSh.o10 M2, MSh.l10 M2, MSh.p33 M2, MSh.o11 M2, MSh.l11 M2, MSh.p35 M2, MSh.o12 M2, MSh.l12 M2, MSh.p36 M2, MSh.o13 M2, MSh.l13 M2, MSh.p37 M2, MSh.o14 M2, MSh.l14 M2, MSh.p38 M2, MSh.o15 M2, MSh.l15 M2, MSh.p39 M2, MSh.o16 M2, MSh.l16 M2, MSh.p42 M2, MSh.o17 M2, MSh.l17 M2, MSh.p43 M2, MSh.o18 M2, MSh.l18 M2, MSh.p44 M2, MSh.o19 M2, MSh.l19 M2, MSh.p45 M2, MSh.o20 M2, MSh.l20 M2, MSh.p46 M2, MSh.o21 M2, MSh.l21 M2, MSh.p47 M2, MSh.o22 M2, MSh.l22 M2, MSh.p50 M2, MSh.o23 M2, MSh.l23 M2, MSh.p51 M2, MSh.o24 M2, MSh.l24 M2, MSh.p52 M2, MSh.o25 M2, MSh.l25 M2, ri, -Int.reduceToNat, -Int32.reduceToNatClampNeg, il0, il1, il2, il3, il4, il5, il6, il7, il8, il9, il10, il11, il12, il13, il14, il15, il16, il17, il18, il19, il20, il21, il22, il23, il24, il25, il26, il27, il28, il29, il30, il31, il32, il35, il36, il38, il40, il42, il43, il44, il45, il46, il47, il48, il49, il50, il51, il52, il57, il59, il60, il63, il64, il75, il80, il95, il96, il97, il98, il99, il100, il120, il122, il123, il127, il128, il135, il167, il175, il225, il249, il250, il255, il256, il360, il370, il384, il600, il700, il740, il900, il940, il1024, il1600, il4800, il64000, il125000, il262143, il1000000000, iI_toInt, iI_add, iI_sub, iI_mul, iI_neg, iI_lt, iI_le, iI_eq, iI_n, iI_in, iI_div, iI_mod, iI_shm, iI_and1, iI_and7, iI_and63, iI_shr3, iI_shr6, rd_I, ob, Option.some.injEq, exists_eq_left', exists_eq_left, true_and, and_true, fqI, fqJ, eq_self, true_or, or_true, bP_0, bP_0i, npP, bP_1i, bP_b, not_true_eq_false, not_false_eq_true, false_implies, true_implies, implies_true, Classical.not_not, and_self]
    refine ⟨fun neg => ?_, fun nn => ?_⟩
    · have ns : ¬ seenB S w := fun ⟨j, j0, j1, j2⟩ => by
        have := P2.rg j j0 j1
        rw [j2] at this
        have db := dpt_bd I.fg j.toNat j (by omega) j0 j1
        omega
      have eS : bAct (nxB s t0 z hr) i (5 * r + how) S = (S.1 + 1, updT S.2.1 S.1 w, updT S.2.2.1 S.1 i, updT S.2.2.2 S.1 (5 * r + how)) := by
        unfold bAct
        rw [hw, ite_t ⟨wb.1, ns⟩]
      rw [eS] at K
      intro g3 w3
      obtain ⟨f3', r3⟩ := wI (i := w) (by omega) (by omega) (by omega) w3
      have M3 := M2.gr f3'.gr
      simp (disch := omega) only [MSh.o0 M3, MSh.p1 M3, MSh.o1 M3, MSh.l1 M3, MSh.p6 M3, MSh.o2 M3, MSh.l2 M3, MSh.p7 M3, MSh.o3 M3, MSh.l3 M3, MSh.p8 M3, MSh.o4 M3, MSh.l4 M3, MSh.p9 M3, MSh.o5 M3, MSh.l5 M3, MSh.p10 M3, MSh.o6 M3, MSh.l6 M3, MSh.p24 M3, MSh.o7 M3, MSh.l7 M3, MSh.p25 M3, MSh.o8 M3, MSh.l8 M3, MSh.p26 M3, MSh.o9 M3, MSh.l9 M3, MSh.p32 M3, MSh.o10 M3, MSh.l10 M3, MSh.p33 M3, MSh.o11 M3, MSh.l11 M3, MSh.p35 M3, MSh.o12 M3, MSh.l12 M3, MSh.p36 M3, MSh.o13 M3, MSh.l13 M3, MSh.p37 M3, MSh.o14 M3, MSh.l14 M3, MSh.p38 M3, MSh.o15 M3, MSh.l15 M3, MSh.p39 M3, MSh.o16 M3, MSh.l16 M3, MSh.p42 M3, MSh.o17 M3, MSh.l17 M3, MSh.p43 M3, MSh.o18 M3, MSh.l18 M3, MSh.p44 M3, MSh.o19 M3, MSh.l19 M3, MSh.p45 M3, MSh.o20 M3, MSh.l20 M3, MSh.p46 M3, MSh.o21 M3, MSh.l21 M3, MSh.p47 M3, MSh.o22 M3, MSh.l22 M3, MSh.p50 M3, MSh.o23 M3, MSh.l23 M3, MSh.p51 M3, MSh.o24 M3, MSh.l24 M3, MSh.p52 M3, MSh.o25 M3, MSh.l25 M3, -Int.reduceToNat, -Int32.reduceToNatClampNeg, il0, il1, il2, il3, il4, il5, il6, il7, il8, il9, il10, il11, il12, il13, il14, il15, il16, il17, il18, il19, il20, il21, il22, il23, il24, il25, il26, il27, il28, il29, il30, il31, il32, il35, il36, il38, il40, il42, il43, il44, il45, il46, il47, il48, il49, il50, il51, il52, il57, il59, il60, il63, il64, il75, il80, il95, il96, il97, il98, il99, il100, il120, il122, il123, il127, il128, il135, il167, il175, il225, il249, il250, il255, il256, il360, il370, il384, il600, il700, il740, il900, il940, il1024, il1600, il4800, il64000, il125000, il262143, il1000000000, iI_toInt, iI_add, iI_sub, iI_mul, iI_neg, iI_lt, iI_le, iI_eq, iI_n, iI_in, iI_div, iI_mod, iI_shm, iI_and1, iI_and7, iI_and63, iI_shr3, iI_shr6, rd_I, ob, Option.some.injEq, exists_eq_left', exists_eq_left, true_and, and_true, fqI, fqJ, eq_self, true_or, or_true, bP_0, bP_0i, npP, bP_1i, bP_b, not_true_eq_false, not_false_eq_true, false_implies, true_implies, implies_true, Classical.not_not, and_self]
      intro g4 w4
      obtain ⟨f4, r4⟩ := wI (i := w) (by omega) (by omega) (by omega) w4
      have M4 := M3.gr f4.gr
      simp (disch := omega) only [MSh.o0 M4, MSh.p1 M4, MSh.o1 M4, MSh.l1 M4, MSh.p6 M4, MSh.o2 M4, MSh.l2 M4, MSh.p7 M4, MSh.o3 M4, MSh.l3 M4, MSh.p8 M4, MSh.o4 M4, MSh.l4 M4, MSh.p9 M4, MSh.o5 M4, MSh.l5 M4, MSh.p10 M4, MSh.o6 M4, MSh.l6 M4, MSh.p24 M4, MSh.o7 M4, MSh.l7 M4, MSh.p25 M4, MSh.o8 M4, MSh.l8 M4, MSh.p26 M4, MSh.o9 M4, MSh.l9 M4, MSh.p32 M4, MSh.o10 M4, MSh.l10 M4, MSh.p33 M4, MSh.o11 M4, MSh.l11 M4, MSh.p35 M4, MSh.o12 M4, MSh.l12 M4, MSh.p36 M4, MSh.o13 M4, MSh.l13 M4, MSh.p37 M4, MSh.o14 M4, MSh.l14 M4, MSh.p38 M4, MSh.o15 M4, MSh.l15 M4, MSh.p39 M4, MSh.o16 M4, MSh.l16 M4, MSh.p42 M4, MSh.o17 M4, MSh.l17 M4, MSh.p43 M4, MSh.o18 M4, MSh.l18 M4, MSh.p44 M4, MSh.o19 M4, MSh.l19 M4, MSh.p45 M4, MSh.o20 M4, MSh.l20 M4, MSh.p46 M4, MSh.o21 M4, MSh.l21 M4, MSh.p47 M4, MSh.o22 M4, MSh.l22 M4, MSh.p50 M4, MSh.o23 M4, MSh.l23 M4, MSh.p51 M4, MSh.o24 M4, MSh.l24 M4, MSh.p52 M4, MSh.o25 M4, MSh.l25 M4, -Int.reduceToNat, -Int32.reduceToNatClampNeg, il0, il1, il2, il3, il4, il5, il6, il7, il8, il9, il10, il11, il12, il13, il14, il15, il16, il17, il18, il19, il20, il21, il22, il23, il24, il25, il26, il27, il28, il29, il30, il31, il32, il35, il36, il38, il40, il42, il43, il44, il45, il46, il47, il48, il49, il50, il51, il52, il57, il59, il60, il63, il64, il75, il80, il95, il96, il97, il98, il99, il100, il120, il122, il123, il127, il128, il135, il167, il175, il225, il249, il250, il255, il256, il360, il370, il384, il600, il700, il740, il900, il940, il1024, il1600, il4800, il64000, il125000, il262143, il1000000000, iI_toInt, iI_add, iI_sub, iI_mul, iI_neg, iI_lt, iI_le, iI_eq, iI_n, iI_in, iI_div, iI_mod, iI_shm, iI_and1, iI_and7, iI_and63, iI_shr3, iI_shr6, rd_I, ob, Option.some.injEq, exists_eq_left', exists_eq_left, true_and, and_true, fqI, fqJ, eq_self, true_or, or_true, bP_0, bP_0i, npP, bP_1i, bP_b, not_true_eq_false, not_false_eq_true, false_implies, true_implies, implies_true, Classical.not_not, and_self]
      intro g5 w5
      obtain ⟨f5, r5⟩ := wI (i := w) (by omega) (by omega) (by omega) w5
      have M5 := M4.gr f5.gr
      have q5 : rd g5 92 41 = S.1 := by rw [f5.row (by simp), f4.row (by simp), f3'.row (by simp)]; exact A2.q41
      simp (disch := omega) only [MSh.o0 M5, MSh.p1 M5, MSh.o1 M5, MSh.l1 M5, MSh.p6 M5, MSh.o2 M5, MSh.l2 M5, MSh.p7 M5, MSh.o3 M5, MSh.l3 M5, MSh.p8 M5, MSh.o4 M5, MSh.l4 M5, MSh.p9 M5, MSh.o5 M5, MSh.l5 M5, MSh.p10 M5, MSh.o6 M5, MSh.l6 M5, MSh.p24 M5, MSh.o7 M5, MSh.l7 M5, MSh.p25 M5, MSh.o8 M5, MSh.l8 M5, MSh.p26 M5, MSh.o9 M5, MSh.l9 M5, MSh.p32 M5, MSh.o10 M5, MSh.l10 M5, MSh.p33 M5, MSh.o11 M5, MSh.l11 M5, MSh.p35 M5, MSh.o12 M5, MSh.l12 M5, MSh.p36 M5, MSh.o13 M5, MSh.l13 M5, MSh.p37 M5, MSh.o14 M5, MSh.l14 M5, MSh.p38 M5, MSh.o15 M5, MSh.l15 M5, MSh.p39 M5, MSh.o16 M5, MSh.l16 M5, MSh.p42 M5, MSh.o17 M5, MSh.l17 M5, MSh.p43 M5, MSh.o18 M5, MSh.l18 M5, MSh.p44 M5, MSh.o19 M5, MSh.l19 M5, MSh.p45 M5, MSh.o20 M5, MSh.l20 M5, MSh.p46 M5, MSh.o21 M5, MSh.l21 M5, MSh.p47 M5, MSh.o22 M5, MSh.l22 M5, MSh.p50 M5, MSh.o23 M5, MSh.l23 M5, MSh.p51 M5, MSh.o24 M5, MSh.l24 M5, MSh.p52 M5, MSh.o25 M5, MSh.l25 M5, fd0, fd1, fd2, fd3, fd4, fd5, fd6, fd7, fd8, fd9, fd10, fd11, fd12, fd13, fd14, fd15, fd16, fd17, fd18, fd19, fd20, fd21, fd22, fd23, fd24, fd25, fd26, fd27, fd28, fd29, fd30, fd31, fd32, fd33, fd34, fd35, fd36, fd37, fd38, fd39, fd40, fd41, fd42, fd43, fd44, fd45, fd46, fd47, fd48, fd49, fd50, fd51, fd52, q5, -Int.reduceToNat, -Int32.reduceToNatClampNeg, il0, il1, il2, il3, il4, il5, il6, il7, il8, il9, il10, il11, il12, il13, il14, il15, il16, il17, il18, il19, il20, il21, il22, il23, il24, il25, il26, il27, il28, il29, il30, il31, il32, il35, il36, il38, il40, il42, il43, il44, il45, il46, il47, il48, il49, il50, il51, il52, il57, il59, il60, il63, il64, il75, il80, il95, il96, il97, il98, il99, il100, il120, il122, il123, il127, il128, il135, il167, il175, il225, il249, il250, il255, il256, il360, il370, il384, il600, il700, il740, il900, il940, il1024, il1600, il4800, il64000, il125000, il262143, il1000000000, iI_toInt, iI_add, iI_sub, iI_mul, iI_neg, iI_lt, iI_le, iI_eq, iI_n, iI_in, iI_div, iI_mod, iI_shm, iI_and1, iI_and7, iI_and63, iI_shr3, iI_shr6, rd_I, ob, Option.some.injEq, exists_eq_left', exists_eq_left, true_and, and_true, fqI, fqJ, eq_self, true_or, or_true, bP_0, bP_0i, npP, bP_1i, bP_b, not_true_eq_false, not_false_eq_true, false_implies, true_implies, implies_true, Classical.not_not, and_self]
      intro g6 w6
      obtain ⟨f6, r6⟩ := wI (i := S.1) (by omega) (by omega) (by omega) w6
      have M6 := M5.gr f6.gr
      have q6 : rd g6 92 41 = S.1 := by rw [f6.row (by simp)]; exact q5
      simp (disch := omega) only [MSh.o0 M6, MSh.p1 M6, MSh.o1 M6, MSh.l1 M6, MSh.p6 M6, MSh.o2 M6, MSh.l2 M6, MSh.p7 M6, MSh.o3 M6, MSh.l3 M6, MSh.p8 M6, MSh.o4 M6, MSh.l4 M6, MSh.p9 M6, MSh.o5 M6, MSh.l5 M6, MSh.p10 M6, MSh.o6 M6, MSh.l6 M6, MSh.p24 M6, MSh.o7 M6, MSh.l7 M6, MSh.p25 M6, MSh.o8 M6, MSh.l8 M6, MSh.p26 M6, MSh.o9 M6, MSh.l9 M6, MSh.p32 M6, MSh.o10 M6, MSh.l10 M6, MSh.p33 M6, MSh.o11 M6, MSh.l11 M6, MSh.p35 M6, MSh.o12 M6, MSh.l12 M6, MSh.p36 M6, MSh.o13 M6, MSh.l13 M6, MSh.p37 M6, MSh.o14 M6, MSh.l14 M6, MSh.p38 M6, MSh.o15 M6, MSh.l15 M6, MSh.p39 M6, MSh.o16 M6, MSh.l16 M6, MSh.p42 M6, MSh.o17 M6, MSh.l17 M6, MSh.p43 M6, MSh.o18 M6, MSh.l18 M6, MSh.p44 M6, MSh.o19 M6, MSh.l19 M6, MSh.p45 M6, MSh.o20 M6, MSh.l20 M6, MSh.p46 M6, MSh.o21 M6, MSh.l21 M6, MSh.p47 M6, MSh.o22 M6, MSh.l22 M6, MSh.p50 M6, MSh.o23 M6, MSh.l23 M6, MSh.p51 M6, MSh.o24 M6, MSh.l24 M6, MSh.p52 M6, MSh.o25 M6, MSh.l25 M6, fd0, fd1, fd2, fd3, fd4, fd5, fd6, fd7, fd8, fd9, fd10, fd11, fd12, fd13, fd14, fd15, fd16, fd17, fd18, fd19, fd20, fd21, fd22, fd23, fd24, fd25, fd26, fd27, fd28, fd29, fd30, fd31, fd32, fd33, fd34, fd35, fd36, fd37, fd38, fd39, fd40, fd41, fd42, fd43, fd44, fd45, fd46, fd47, fd48, fd49, fd50, fd51, fd52, q6, -Int.reduceToNat, -Int32.reduceToNatClampNeg, il0, il1, il2, il3, il4, il5, il6, il7, il8, il9, il10, il11, il12, il13, il14, il15, il16, il17, il18, il19, il20, il21, il22, il23, il24, il25, il26, il27, il28, il29, il30, il31, il32, il35, il36, il38, il40, il42, il43, il44, il45, il46, il47, il48, il49, il50, il51, il52, il57, il59, il60, il63, il64, il75, il80, il95, il96, il97, il98, il99, il100, il120, il122, il123, il127, il128, il135, il167, il175, il225, il249, il250, il255, il256, il360, il370, il384, il600, il700, il740, il900, il940, il1024, il1600, il4800, il64000, il125000, il262143, il1000000000, iI_toInt, iI_add, iI_sub, iI_mul, iI_neg, iI_lt, iI_le, iI_eq, iI_n, iI_in, iI_div, iI_mod, iI_shm, iI_and1, iI_and7, iI_and63, iI_shr3, iI_shr6, rd_I, ob, Option.some.injEq, exists_eq_left', exists_eq_left, true_and, and_true, fqI, fqJ, eq_self, true_or, or_true, bP_0, bP_0i, npP, bP_1i, bP_b, not_true_eq_false, not_false_eq_true, false_implies, true_implies, implies_true, Classical.not_not, and_self]
      intro g7 w7
      obtain ⟨f7, r7⟩ := wI (i := 41) (by omega) (by omega) (by omega) w7
      have F7 : Fr [92, 104, 105, 106, 107] [] [] g2 g7 := (f3'.mono (by simp) (by simp) (by simp)).trans ((f4.mono (by simp) (by simp) (by simp)).trans ((f5.mono (by simp) (by simp) (by simp)).trans ((f6.mono (by simp) (by simp) (by simp)).trans (f7.mono (by simp) (by simp) (by simp)))))
      refine K g7 ⟨M6.gr f7.gr, A2.FF.trans (F7.mono (by simp) (by simp) (by simp)), by rw [F7.row (by simp)]; exact A2.s94, by rw [F7.row (by simp)]; exact A2.z10, fun j hj => by rw [F7.row (by simp)]; exact A2.t99 j hj, ?_, by rw [r7, updT_s], fun j hj => by rw [r7, updT_n hj, f6.row (by simp), f5.row (by simp), f4.row (by simp), f3'.row (by simp)]; exact A2.r92 j hj⟩
      refine P2.push I hi.1 hi.2 ns ?_ ?_ ?_ ?_
      · rw [f7.row (by simp), f6.row (by simp), f5.row (by simp), f4.row (by simp), r3]
      · rw [f7.row (by simp), f6.row (by simp), f5.row (by simp), r4, f3'.row (by simp)]
      · rw [f7.row (by simp), f6.row (by simp), r5, f4.row (by simp), f3'.row (by simp)]
        congr 1
        unfold dcd; omega
      · rw [f7.row (by simp), r6, f5.row (by simp), f4.row (by simp), f3'.row (by simp)]
    · have sn : seenB S w := Classical.byContradiction fun q => by
        have := P2.rn w wb.1 wb.2 q
        omega
      have eS : bAct (nxB s t0 z hr) i (5 * r + how) S = S := by
        unfold bAct
        rw [hw, ite_f (fun u => u.2 sn)]
      rw [eS] at K
      exact K g2 A2
  · rw [d94, d100, e99] at y0
    rw [d94, d100, e99]
    have wb := why_bd (s := s) (t := tuB s t0 (S.2.1 i)) (z := z) (r := r) (how := how) (hr := hr)
    have nx : nxB s t0 z hr (S.2.1 i) (5 * r + how) = -1 := nxB_n (by rw [a5, a6]; exact y0)
    have eS : bAct (nxB s t0 z hr) i (5 * r + how) S = S := by
      unfold bAct
      rw [nx, ite_f (fun u => by omega)]
    rw [eS] at K
    refine ⟨fun u => by rw [iI_le (by omega) (by omega) (by omega) (by omega)] at u; omega, fun _ => K g2 (out (f1.trans f2) fun j hj => by rw [r2, e99]; exact tu_n hj)⟩
end MRI
