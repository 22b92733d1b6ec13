/-! rings from the start, and the way back -/
noncomputable def runB (s : Int → Int) (hr goal most : Int) : BS := bRun (nxB s (tS s) (zC s) hr) 0 (5 * s 2).toNat (stpB goal most) 64000 0 (bGo (cdB s (tS s)))
section MR3
variable {h h1 h2 h' h0 g0 g : AH} {postV : AH → Prop} {post : AH → Int32 → Prop} {a b c d f i j k v w x y pl r hr how gl goal most st u p o : Int} {s t t' t0 z T : Int → Int} {S : BS}
theorem m_rings (M : MSh h) (Z : Z24 h) (s94 : rd h 94 = s) (gs : GS s) (fw : few s) (V : VT s (tS s) (zC s)) (hh : 0 ≤ hr ∧ hr < 24) (hg : -1 ≤ goal ∧ goal < 125000) (hm : 0 ≤ most ∧ most < 2147483648)
    (K : ∀ h' S, MSh h' → Fr [92, 99, 100, 104, 105, 106, 107] [] [] h h' → MRp h' 104 105 106 107 125000 S → rd h' 92 41 = S.1 → BI (VB s (tS s) (zC s)) 0 (5 * s 2) S → S = runB s hr goal most → (∀ j, j ≠ 41 → rd h' 92 j = rd h 92 j) → (∀ j, j < 0 ∨ 3 * s 2 ≤ j → rd h' 99 j = tS s j) → rd h' 100 = zC s → postV h') : wp_X12_rings h 92 (iI hr) (iI most) (iI goal) postV := by
  have b2 := gs.1.1 2 (by omega) (by omega)
  have f3 := fw.1
  have e := EZ.c s
  obtain ⟨VS, eS⟩ := VB.of (t0 := tS s) gs fw e V (fun _ _ => rfl)
  have sb' := rg_b VS.1
  unfold wp_X12_rings
  refine lf_for (W := fun k (b : AH) i => wl_X12_rings_3 postV k b 92 (iI hr) (iI most) (iI goal) (iI i)) (lo := 0) (hi := 125000) (fun i b => Fr [104] [] [] h b ∧ ∀ w, 0 ≤ w → w < i → rd b 104 w = -1) (by omega) (fun k g i i0 i1 J nx => ?_) (fun k g J => ?_) h ⟨(Fr.refl h).mono (by simp) (by simp) (by simp), fun w w0 w1 => by omega⟩
  · show wb_X12_rings_3 (wl_X12_rings_3 postV k) g 92 (iI hr) (iI most) (iI goal) (iI i) postV
    have Mg := M.gr J.1.gr
    unfold wb_X12_rings_3
    simp (disch := omega) only [MSh.o0 Mg, MSh.p1 Mg, MSh.o1 Mg, MSh.l1 Mg, MSh.p6 Mg, MSh.o2 Mg, MSh.l2 Mg, MSh.p7 Mg, MSh.o3 Mg, MSh.l3 Mg, MSh.p8 Mg, MSh.o4 Mg, MSh.l4 Mg, MSh.p9 Mg, MSh.o5 Mg, MSh.l5 Mg, MSh.p10 Mg, MSh.o6 Mg, MSh.l6 Mg, MSh.p24 Mg, MSh.o7 Mg, MSh.l7 Mg, MSh.p25 Mg, MSh.o8 Mg, MSh.l8 Mg, MSh.p26 Mg, MSh.o9 Mg, MSh.l9 Mg, MSh.p32 Mg, MSh.o10 Mg, MSh.l10 Mg, MSh.p33 Mg, MSh.o11 Mg, MSh.l11 Mg, MSh.p35 Mg, MSh.o12 Mg, MSh.l12 Mg, MSh.p36 Mg, MSh.o13 Mg, MSh.l13 Mg, MSh.p37 Mg, MSh.o14 Mg, MSh.l14 Mg, MSh.p38 Mg, MSh.o15 Mg, MSh.l15 Mg, MSh.p39 Mg, MSh.o16 Mg, MSh.l16 Mg, MSh.p42 Mg, MSh.o17 Mg, MSh.l17 Mg, MSh.p43 Mg, MSh.o18 Mg, MSh.l18 Mg, MSh.p44 Mg, MSh.o19 Mg, MSh.l19 Mg, MSh.p45 Mg, MSh.o20 Mg, MSh.l20 Mg, MSh.p46 Mg, MSh.o21 Mg, MSh.l21 Mg, MSh.p47 Mg, MSh.o22 Mg, MSh.l22 Mg, MSh.p50 Mg, MSh.o23 Mg, MSh.l23 Mg, MSh.p51 Mg, MSh.o24 Mg, MSh.l24 Mg, MSh.p52 Mg, MSh.o25 Mg, MSh.l25 Mg, -Int.reduceToNat, -Int32.reduceToNatClampNeg, il0, il1, il2, il3, il4, il5, il6, il7, il8, il9, il10, il11, il12, il13, il14, il15, il16, il17, il18, il19, il20, il21, il22, il23, il24, il25, il26, il27, il28, il29, il30, il31, il32, il35, il36, il38, il40, il42, il43, il44, il45, il46, il47, il48, il49, il50, il51, il52, il57, il59, il60, il63, il64, il75, il80, il95, il96, il97, il98, il99, il100, il120, il122, il123, il127, il128, il135, il167, il175, il225, il249, il250, il255, il256, il360, il370, il384, il600, il700, il740, il900, il940, il1024, il1600, il4800, il64000, il125000, il262143, il1000000000, iI_toInt, iI_add, iI_sub, iI_mul, iI_neg, iI_lt, iI_le, iI_eq, iI_n, iI_in, iI_div, iI_mod, iI_shm, iI_and1, iI_and7, iI_and63, iI_shr3, iI_shr6, rd_I, ob, Option.some.injEq, exists_eq_left', exists_eq_left, true_and, and_true, fqI, fqJ, eq_self, true_or, or_true, bP_0, bP_0i, npP, bP_1i, bP_b, not_true_eq_false, not_false_eq_true, false_implies, true_implies, implies_true, Classical.not_not, and_self]
    refine ⟨fun u => by omega, fun _ => ?_⟩
    intro g1 w1
    obtain ⟨f1, r1⟩ := wI (i := i) (by omega) (by omega) (by omega) w1
    refine nx g1 ⟨J.1.trans (f1.mono (by simp) (by simp) (by simp)), fun w w0 w1 => ?_⟩
    rw [r1]
    by_cases cw : w = i
    · rw [cw, updT_s]
    · rw [updT_n cw]; exact J.2 w w0 (by omega)
  · show wb_X12_rings_3 (wl_X12_rings_3 postV k) g 92 (iI hr) (iI most) (iI goal) (iI 125000) postV
    obtain ⟨Fg, Jg⟩ := J
    have Mg := M.gr Fg.gr
    have Zg : Z24 g := by unfold Z24; rw [Fg.row (by simp), Fg.row (by simp)]; exact Z
    have d94 : rd g 94 = s := by rw [Fg.row (by simp)]; exact s94
    unfold wb_X12_rings_3
    refine ⟨fun _ => ⟨Mg.o0, m_asIt Mg Zg fun g1 f1 e99 e100 => ?_⟩, fun u => absurd (show (125000 : Int32) ≤ iI 125000 by decide) u⟩
    rw [d94] at e99 e100
    have M1 := Mg.gr f1.gr
    have c94 : rd g1 94 = s := by rw [f1.row (by simp)]; exact d94
    refine ⟨M1.o0, m_code M1 c94 e99 b2.1 f3 ?_⟩
    generalize hst : cdB s (tS s) = st at *
    simp (disch := omega) only [MSh.o0 M1, MSh.p1 M1, MSh.o1 M1, MSh.l1 M1, MSh.p6 M1, MSh.o2 M1, MSh.l2 M1, MSh.p7 M1, MSh.o3 M1, MSh.l3 M1, MSh.p8 M1, MSh.o4 M1, MSh.l4 M1, MSh.p9 M1, MSh.o5 M1, MSh.l5 M1, MSh.p10 M1, MSh.o6 M1, MSh.l6 M1, MSh.p24 M1, MSh.o7 M1, MSh.l7 M1, MSh.p25 M1, MSh.o8 M1, MSh.l8 M1, MSh.p26 M1, MSh.o9 M1, MSh.l9 M1, MSh.p32 M1, MSh.o10 M1, MSh.l10 M1, MSh.p33 M1, MSh.o11 M1, MSh.l11 M1, MSh.p35 M1, MSh.o12 M1, MSh.l12 M1, MSh.p36 M1, MSh.o13 M1, MSh.l13 M1, MSh.p37 M1, MSh.o14 M1, MSh.l14 M1, MSh.p38 M1, MSh.o15 M1, MSh.l15 M1, MSh.p39 M1, MSh.o16 M1, MSh.l16 M1, MSh.p42 M1, MSh.o17 M1, MSh.l17 M1, MSh.p43 M1, MSh.o18 M1, MSh.l18 M1, MSh.p44 M1, MSh.o19 M1, MSh.l19 M1, MSh.p45 M1, MSh.o20 M1, MSh.l20 M1, MSh.p46 M1, MSh.o21 M1, MSh.l21 M1, MSh.p47 M1, MSh.o22 M1, MSh.l22 M1, MSh.p50 M1, MSh.o23 M1, MSh.l23 M1, MSh.p51 M1, MSh.o24 M1, MSh.l24 M1, MSh.p52 M1, MSh.o25 M1, MSh.l25 M1, -Int.reduceToNat, -Int32.reduceToNatClampNeg, il0, il1, il2, il3, il4, il5, il6, il7, il8, il9, il10, il11, il12, il13, il14, il15, il16, il17, il18, il19, il20, il21, il22, il23, il24, il25, il26, il27, il28, il29, il30, il31, il32, il35, il36, il38, il40, il42, il43, il44, il45, il46, il47, il48, il49, il50, il51, il52, il57, il59, il60, il63, il64, il75, il80, il95, il96, il97, il98, il99, il100, il120, il122, il123, il127, il128, il135, il167, il175, il225, il249, il250, il255, il256, il360, il370, il384, il600, il700, il740, il900, il940, il1024, il1600, il4800, il64000, il125000, il262143, il1000000000, iI_toInt, iI_add, iI_sub, iI_mul, iI_neg, iI_lt, iI_le, iI_eq, iI_n, iI_in, iI_div, iI_mod, iI_shm, iI_and1, iI_and7, iI_and63, iI_shr3, iI_shr6, rd_I, ob, Option.some.injEq, exists_eq_left', exists_eq_left, true_and, and_true, fqI, fqJ, eq_self, true_or, or_true, bP_0, bP_0i, npP, bP_1i, bP_b, not_true_eq_false, not_false_eq_true, false_implies, true_implies, implies_true, Classical.not_not, and_self]
    intro g2 w2
    obtain ⟨f2, r2⟩ := wI (i := st) (by omega) (by omega) (by omega) w2
    have M2 := M1.gr f2.gr
    simp (disch := omega) only [MSh.o0 M2, MSh.p1 M2, MSh.o1 M2, MSh.l1 M2, MSh.p6 M2, MSh.o2 M2, MSh.l2 M2, MSh.p7 M2, MSh.o3 M2, MSh.l3 M2, MSh.p8 M2, MSh.o4 M2, MSh.l4 M2, MSh.p9 M2, MSh.o5 M2, MSh.l5 M2, MSh.p10 M2, MSh.o6 M2, MSh.l6 M2, MSh.p24 M2, MSh.o7 M2, MSh.l7 M2, MSh.p25 M2, MSh.o8 M2, MSh.l8 M2, MSh.p26 M2, MSh.o9 M2, MSh.l9 M2, MSh.p32 M2, MSh.o10 M2, MSh.l10 M2, MSh.p33 M2, MSh.o11 M2, MSh.l11 M2, MSh.p35 M2, MSh.o12 M2, MSh.l12 M2, MSh.p36 M2, MSh.o13 M2, MSh.l13 M2, MSh.p37 M2, MSh.o14 M2, MSh.l14 M2, MSh.p38 M2, MSh.o15 M2, MSh.l15 M2, MSh.p39 M2, MSh.o16 M2, MSh.l16 M2, MSh.p42 M2, MSh.o17 M2, MSh.l17 M2, MSh.p43 M2, MSh.o18 M2, MSh.l18 M2, MSh.p44 M2, MSh.o19 M2, MSh.l19 M2, MSh.p45 M2, MSh.o20 M2, MSh.l20 M2, MSh.p46 M2, MSh.o21 M2, MSh.l21 M2, MSh.p47 M2, MSh.o22 M2, MSh.l22 M2, MSh.p50 M2, MSh.o23 M2, MSh.l23 M2, MSh.p51 M2, MSh.o24 M2, MSh.l24 M2, MSh.p52 M2, MSh.o25 M2, MSh.l25 M2, -Int.reduceToNat, -Int32.reduceToNatClampNeg, il0, il1, il2, il3, il4, il5, il6, il7, il8, il9, il10, il11, il12, il13, il14, il15, il16, il17, il18, il19, il20, il21, il22, il23, il24, il25, il26, il27, il28, il29, il30, il31, il32, il35, il36, il38, il40, il42, il43, il44, il45, il46, il47, il48, il49, il50, il51, il52, il57, il59, il60, il63, il64, il75, il80, il95, il96, il97, il98, il99, il100, il120, il122, il123, il127, il128, il135, il167, il175, il225, il249, il250, il255, il256, il360, il370, il384, il600, il700, il740, il900, il940, il1024, il1600, il4800, il64000, il125000, il262143, il1000000000, iI_toInt, iI_add, iI_sub, iI_mul, iI_neg, iI_lt, iI_le, iI_eq, iI_n, iI_in, iI_div, iI_mod, iI_shm, iI_and1, iI_and7, iI_and63, iI_shr3, iI_shr6, rd_I, ob, Option.some.injEq, exists_eq_left', exists_eq_left, true_and, and_true, fqI, fqJ, eq_self, true_or, or_true, bP_0, bP_0i, npP, bP_1i, bP_b, not_true_eq_false, not_false_eq_true, false_implies, true_implies, implies_true, Classical.not_not, and_self]
    intro g3 w3
    obtain ⟨f3', r3⟩ := wI (i := 0) (by omega) (by omega) (by omega) w3
    have M3 := M2.gr f3'.gr
    simp (disch := omega) only [MSh.o0 M3, MSh.p1 M3, MSh.o1 M3, MSh.l1 M3, MSh.p6 M3, MSh.o2 M3, MSh.l2 M3, MSh.p7 M3, MSh.o3 M3, MSh.l3 M3, MSh.p8 M3, MSh.o4 M3, MSh.l4 M3, MSh.p9 M3, MSh.o5 M3, MSh.l5 M3, MSh.p10 M3, MSh.o6 M3, MSh.l6 M3, MSh.p24 M3, MSh.o7 M3, MSh.l7 M3, MSh.p25 M3, MSh.o8 M3, MSh.l8 M3, MSh.p26 M3, MSh.o9 M3, MSh.l9 M3, MSh.p32 M3, MSh.o10 M3, MSh.l10 M3, MSh.p33 M3, MSh.o11 M3, MSh.l11 M3, MSh.p35 M3, MSh.o12 M3, MSh.l12 M3, MSh.p36 M3, MSh.o13 M3, MSh.l13 M3, MSh.p37 M3, MSh.o14 M3, MSh.l14 M3, MSh.p38 M3, MSh.o15 M3, MSh.l15 M3, MSh.p39 M3, MSh.o16 M3, MSh.l16 M3, MSh.p42 M3, MSh.o17 M3, MSh.l17 M3, MSh.p43 M3, MSh.o18 M3, MSh.l18 M3, MSh.p44 M3, MSh.o19 M3, MSh.l19 M3, MSh.p45 M3, MSh.o20 M3, MSh.l20 M3, MSh.p46 M3, MSh.o21 M3, MSh.l21 M3, MSh.p47 M3, MSh.o22 M3, MSh.l22 M3, MSh.p50 M3, MSh.o23 M3, MSh.l23 M3, MSh.p51 M3, MSh.o24 M3, MSh.l24 M3, MSh.p52 M3, MSh.o25 M3, MSh.l25 M3, fd0, fd1, fd2, fd3, fd4, fd5, fd6, fd7, fd8, fd9, fd10, fd11, fd12, fd13, fd14, fd15, fd16, fd17, fd18, fd19, fd20, fd21, fd22, fd23, fd24, fd25, fd26, fd27, fd28, fd29, fd30, fd31, fd32, fd33, fd34, fd35, fd36, fd37, fd38, fd39, fd40, fd41, fd42, fd43, fd44, fd45, fd46, fd47, fd48, fd49, fd50, fd51, fd52, -Int.reduceToNat, -Int32.reduceToNatClampNeg, il0, il1, il2, il3, il4, il5, il6, il7, il8, il9, il10, il11, il12, il13, il14, il15, il16, il17, il18, il19, il20, il21, il22, il23, il24, il25, il26, il27, il28, il29, il30, il31, il32, il35, il36, il38, il40, il42, il43, il44, il45, il46, il47, il48, il49, il50, il51, il52, il57, il59, il60, il63, il64, il75, il80, il95, il96, il97, il98, il99, il100, il120, il122, il123, il127, il128, il135, il167, il175, il225, il249, il250, il255, il256, il360, il370, il384, il600, il700, il740, il900, il940, il1024, il1600, il4800, il64000, il125000, il262143, il1000000000, iI_toInt, iI_add, iI_sub, iI_mul, iI_neg, iI_lt, iI_le, iI_eq, iI_n, iI_in, iI_div, iI_mod, iI_shm, iI_and1, iI_and7, iI_and63, iI_shr3, iI_shr6, rd_I, ob, Option.some.injEq, exists_eq_left', exists_eq_left, true_and, and_true, fqI, fqJ, eq_self, true_or, or_true, bP_0, bP_0i, npP, bP_1i, bP_b, not_true_eq_false, not_false_eq_true, false_implies, true_implies, implies_true, Classical.not_not, and_self]
    intro g4 w4
    obtain ⟨f4, r4⟩ := wI (i := 41) (by omega) (by omega) (by omega) w4
    have F4 : Fr [92, 99, 100, 104, 107] [] [] h g4 := (Fg.mono (by simp) (by simp) (by simp)).trans ((f1.mono (by simp) (by simp) (by simp)).trans ((f2.mono (by simp) (by simp) (by simp)).trans ((f3'.mono (by simp) (by simp) (by simp)).trans (f4.mono (by simp) (by simp) (by simp)))))
    have F14 : Fr [92, 104, 107] [] [] g1 g4 := (f2.mono (by simp) (by simp) (by simp)).trans ((f3'.mono (by simp) (by simp) (by simp)).trans (f4.mono (by simp) (by simp) (by simp)))
    have A4 : MB g4 g4 s (tS s) (zC s) (bGo st) := ⟨M3.gr f4.gr, (Fr.refl g4).mono (by simp) (by simp) (by simp), by rw [F14.row (by simp)]; exact c94, by rw [F14.row (by simp)]; exact e100, fun j _ => by rw [F14.row (by simp), e99], MRp.start (fun w w0 w1 => by
      rw [f4.row (by simp), f3'.row (by simp), r2]
      by_cases cw : w = st
      · rw [cw, updT_s, if_pos rfl]
      · rw [updT_n cw, if_neg cw, f1.row (by simp)]; exact Jg w w0 w1) sb' (by rw [f4.row (by simp), r3, updT_s]), by rw [r4, updT_s]; rfl, fun _ _ => rfl⟩
    refine ⟨_, m_ringsLoop (R0 := runB s hr goal most) gs fw e hh hg hm (fun h' S A I eS => ?_) 64000 0 (bGo st) g4 A4 (BI.go VS) (by omega) (by omega) (by unfold runB; rw [hst])⟩
    exact K h' S A.MM ((F4.mono (by simp) (by simp) (by simp)).trans (A.FF.mono (by simp) (by simp) (by simp))) A.P A.q41 I eS (fun j hj => by rw [A.r92 j hj, r4, updT_n hj, f3'.row (by simp), f2.row (by simp), f1.row (by simp), Fg.row (by simp)]) A.t99 A.z10
theorem m_keepBack (M : MSh h) (P : MRp h 104 105 106 107 125000 S) (I : BI (VB s t0 z) 0 (5 * s 2) S) (gs : GS s) (fw : few s) (e : EZ z s) (h0' : 0 ≤ pl) (h1' : pl < S.1) (h40 : rd h 92 40 = dpt S.2.2.1 pl) (K : ∀ h', Fr [108] [] [] h h' → (∀ k : Nat, (k : Int) < dpt S.2.2.1 pl → rd h' 108 (dpt S.2.2.1 pl - 1 - k) = dcd (S.2.2.2 (anc S.2.2.1 k pl))) → post h' (iI (dpt S.2.2.1 pl))) : ∃ k, wl_X12_keepFound_30 post k h 92 (iI (S.2.1 pl)) (iI (dpt S.2.2.1 pl - 1)) := by
  have db := dpt_bd I.fg pl.toNat pl (by omega) h0' h1'
  have t64 := I.le64 gs fw e
  have f3 := fw.1
  refine (lf_for (W := fun k (b : AH × Int) c => wl_X12_keepFound_30 post k b.1 92 (iI (S.2.1 b.2)) (iI (dpt S.2.2.1 pl - 1 - c))) (lo := 0) (hi := dpt S.2.2.1 pl) (fun c b => Fr [108] [] [] h b.1 ∧ b.2 = anc S.2.2.1 c.toNat pl ∧ ∀ k : Nat, (k : Int) < c → rd b.1 108 (dpt S.2.2.1 pl - 1 - k) = dcd (S.2.2.2 (anc S.2.2.1 k pl))) db.1 (fun k b c c0 c1 J nx => ?_) (fun k b J => ?_) (h, pl) ⟨(Fr.refl h).mono (by simp) (by simp) (by simp), rfl, fun k hk => by omega⟩).imp fun k hk => by
    have e : iI (dpt S.2.2.1 pl - 1 - 0) = iI (dpt S.2.2.1 pl - 1) := by congr 1; omega
    have hk : wl_X12_keepFound_30 post k h 92 (iI (S.2.1 pl)) (iI (dpt S.2.2.1 pl - 1 - 0)) := hk
    rw [e] at hk
    exact hk
  · obtain ⟨g, at'⟩ := b
    obtain ⟨Fg, ea, J3⟩ := J
    have ea : at' = anc S.2.2.1 c.toNat pl := ea
    have Fg : Fr [108] [] [] h g := Fg
    subst ea
    show wb_X12_keepFound_30 (wl_X12_keepFound_30 post k) g 92 (iI (S.2.1 (anc S.2.2.1 c.toNat pl))) (iI (dpt S.2.2.1 pl - 1 - c)) post
    have an := anc_d I.fg c.toNat pl h0' h1' (by omega)
    have ap : 0 < anc S.2.2.1 c.toNat pl := by
      by_cases zz : anc S.2.2.1 c.toNat pl ≤ 0
      · rw [dpt_0 zz] at an; omega
      · omega
    have Mg := M.gr Fg.gr
    have vi := rg_b (I.2.1 _ an.1.1 an.1.2).1
    have e111 : rd g 106 (S.2.1 (anc S.2.2.1 c.toNat pl)) = dcd (S.2.2.2 (anc S.2.2.1 c.toNat pl)) := by rw [Fg.row (by simp)]; exact P.bb _ ap an.1.2
    have bbd := I.2.2.2.2 _ ap an.1.2
    have dbd : 0 ≤ dcd (S.2.2.2 (anc S.2.2.1 c.toNat pl)) ∧ dcd (S.2.2.2 (anc S.2.2.1 c.toNat pl)) < 1000 := by unfold dcd; omega
    unfold wb_X12_keepFound_30
    simp (disch := omega) only [MSh.o0 Mg, MSh.p1 Mg, MSh.o1 Mg, MSh.l1 Mg, MSh.p6 Mg, MSh.o2 Mg, MSh.l2 Mg, MSh.p7 Mg, MSh.o3 Mg, MSh.l3 Mg, MSh.p8 Mg, MSh.o4 Mg, MSh.l4 Mg, MSh.p9 Mg, MSh.o5 Mg, MSh.l5 Mg, MSh.p10 Mg, MSh.o6 Mg, MSh.l6 Mg, MSh.p24 Mg, MSh.o7 Mg, MSh.l7 Mg, MSh.p25 Mg, MSh.o8 Mg, MSh.l8 Mg, MSh.p26 Mg, MSh.o9 Mg, MSh.l9 Mg, MSh.p32 Mg, MSh.o10 Mg, MSh.l10 Mg, MSh.p33 Mg, MSh.o11 Mg, MSh.l11 Mg, MSh.p35 Mg, MSh.o12 Mg, MSh.l12 Mg, MSh.p36 Mg, MSh.o13 Mg, MSh.l13 Mg, MSh.p37 Mg, MSh.o14 Mg, MSh.l14 Mg, MSh.p38 Mg, MSh.o15 Mg, MSh.l15 Mg, MSh.p39 Mg, MSh.o16 Mg, MSh.l16 Mg, MSh.p42 Mg, MSh.o17 Mg, MSh.l17 Mg, MSh.p43 Mg, MSh.o18 Mg, MSh.l18 Mg, MSh.p44 Mg, MSh.o19 Mg, MSh.l19 Mg, MSh.p45 Mg, MSh.o20 Mg, MSh.l20 Mg, MSh.p46 Mg, MSh.o21 Mg, MSh.l21 Mg, MSh.p47 Mg, MSh.o22 Mg, MSh.l22 Mg, MSh.p50 Mg, MSh.o23 Mg, MSh.l23 Mg, MSh.p51 Mg, MSh.o24 Mg, MSh.l24 Mg, MSh.p52 Mg, MSh.o25 Mg, MSh.l25 Mg, e111, -Int.reduceToNat, -Int32.reduceToNatClampNeg, il0, il1, il2, il3, il4, il5, il6, il7, il8, il9, il10, il11, il12, il13, il14, il15, il16, il17, il18, il19, il20, il21, il22, il23, il24, il25, il26, il27, il28, il29, il30, il31, il32, il35, il36, il38, il40, il42, il43, il44, il45, il46, il47, il48, il49, il50, il51, il52, il57, il59, il60, il63, il64, il75, il80, il95, il96, il97, il98, il99, il100, il120, il122, il123, il127, il128, il135, il167, il175, il225, il249, il250, il255, il256, il360, il370, il384, il600, il700, il740, il900, il940, il1024, il1600, il4800, il64000, il125000, il262143, il1000000000, iI_toInt, iI_add, iI_sub, iI_mul, iI_neg, iI_lt, iI_le, iI_eq, iI_n, iI_in, iI_div, iI_mod, iI_shm, iI_and1, iI_and7, iI_and63, iI_shr3, iI_shr6, rd_I, ob, Option.some.injEq, exists_eq_left', exists_eq_left, true_and, and_true, fqI, fqJ, eq_self, true_or, or_true, bP_0, bP_0i, npP, bP_1i, bP_b, not_true_eq_false, not_false_eq_true, false_implies, true_implies, implies_true, Classical.not_not, and_self]
    refine ⟨fun u => by omega, fun _ => ?_⟩
    intro g2 w2
    obtain ⟨f2, r2⟩ := wI (i := dpt S.2.2.1 pl - 1 - c) (by omega) (by omega) (by omega) w2
    have M2 := Mg.gr f2.gr
    have e110 : rd g2 105 (S.2.1 (anc S.2.2.1 c.toNat pl)) = S.2.1 (S.2.2.1 (anc S.2.2.1 c.toNat pl)) := by rw [f2.row (by simp), Fg.row (by simp)]; exact P.cm _ ap an.1.2
    simp (disch := omega) only [MSh.o0 M2, MSh.p1 M2, MSh.o1 M2, MSh.l1 M2, MSh.p6 M2, MSh.o2 M2, MSh.l2 M2, MSh.p7 M2, MSh.o3 M2, MSh.l3 M2, MSh.p8 M2, MSh.o4 M2, MSh.l4 M2, MSh.p9 M2, MSh.o5 M2, MSh.l5 M2, MSh.p10 M2, MSh.o6 M2, MSh.l6 M2, MSh.p24 M2, MSh.o7 M2, MSh.l7 M2, MSh.p25 M2, MSh.o8 M2, MSh.l8 M2, MSh.p26 M2, MSh.o9 M2, MSh.l9 M2, MSh.p32 M2, MSh.o10 M2, MSh.l10 M2, MSh.p33 M2, MSh.o11 M2, MSh.l11 M2, MSh.p35 M2, MSh.o12 M2, MSh.l12 M2, MSh.p36 M2, MSh.o13 M2, MSh.l13 M2, MSh.p37 M2, MSh.o14 M2, MSh.l14 M2, MSh.p38 M2, MSh.o15 M2, MSh.l15 M2, MSh.p39 M2, MSh.o16 M2, MSh.l16 M2, MSh.p42 M2, MSh.o17 M2, MSh.l17 M2, MSh.p43 M2, MSh.o18 M2, MSh.l18 M2, MSh.p44 M2, MSh.o19 M2, MSh.l19 M2, MSh.p45 M2, MSh.o20 M2, MSh.l20 M2, MSh.p46 M2, MSh.o21 M2, MSh.l21 M2, MSh.p47 M2, MSh.o22 M2, MSh.l22 M2, MSh.p50 M2, MSh.o23 M2, MSh.l23 M2, MSh.p51 M2, MSh.o24 M2, MSh.l24 M2, MSh.p52 M2, MSh.o25 M2, MSh.l25 M2, e110, -Int.reduceToNat, -Int32.reduceToNatClampNeg, il0, il1, il2, il3, il4, il5, il6, il7, il8, il9, il10, il11, il12, il13, il14, il15, il16, il17, il18, il19, il20, il21, il22, il23, il24, il25, il26, il27, il28, il29, il30, il31, il32, il35, il36, il38, il40, il42, il43, il44, il45, il46, il47, il48, il49, il50, il51, il52, il57, il59, il60, il63, il64, il75, il80, il95, il96, il97, il98, il99, il100, il120, il122, il123, il127, il128, il135, il167, il175, il225, il249, il250, il255, il256, il360, il370, il384, il600, il700, il740, il900, il940, il1024, il1600, il4800, il64000, il125000, il262143, il1000000000, iI_toInt, iI_add, iI_sub, iI_mul, iI_neg, iI_lt, iI_le, iI_eq, iI_n, iI_in, iI_div, iI_mod, iI_shm, iI_and1, iI_and7, iI_and63, iI_shr3, iI_shr6, rd_I, ob, Option.some.injEq, exists_eq_left', exists_eq_left, true_and, and_true, fqI, fqJ, eq_self, true_or, or_true, bP_0, bP_0i, npP, bP_1i, bP_b, not_true_eq_false, not_false_eq_true, false_implies, true_implies, implies_true, Classical.not_not, and_self]
    rw [show dpt S.2.2.1 pl - 1 - c + -1 = dpt S.2.2.1 pl - 1 - (c + 1) by omega]
    refine nx (g2, S.2.2.1 (anc S.2.2.1 c.toNat pl)) ⟨Fg.trans f2, ?_, fun k hk => ?_⟩
    · show S.2.2.1 (anc S.2.2.1 c.toNat pl) = _
      rw [show (c + 1).toNat = c.toNat + 1 by omega, anc_s]
    · show rd g2 108 _ = _
      rw [r2]
      by_cases ck : (k : Int) = c
      · rw [show dpt S.2.2.1 pl - 1 - (k : Int) = dpt S.2.2.1 pl - 1 - c by omega, updT_s, show k = c.toNat by omega]
      · rw [updT_n (by omega)]; exact J3 k (by omega)
  · obtain ⟨g, at'⟩ := b
    obtain ⟨Fg, ea, J3⟩ := J
    have Fg : Fr [108] [] [] h g := Fg
    have Mg := M.gr Fg.gr
    have e40 : rd g 92 40 = dpt S.2.2.1 pl := by rw [Fg.row (by simp)]; exact h40
    show wb_X12_keepFound_30 (wl_X12_keepFound_30 post k) g 92 (iI (S.2.1 at')) (iI (dpt S.2.2.1 pl - 1 - dpt S.2.2.1 pl)) post
    unfold wb_X12_keepFound_30
    simp (disch := omega) only [MSh.o0 Mg, MSh.p1 Mg, MSh.o1 Mg, MSh.l1 Mg, MSh.p6 Mg, MSh.o2 Mg, MSh.l2 Mg, MSh.p7 Mg, MSh.o3 Mg, MSh.l3 Mg, MSh.p8 Mg, MSh.o4 Mg, MSh.l4 Mg, MSh.p9 Mg, MSh.o5 Mg, MSh.l5 Mg, MSh.p10 Mg, MSh.o6 Mg, MSh.l6 Mg, MSh.p24 Mg, MSh.o7 Mg, MSh.l7 Mg, MSh.p25 Mg, MSh.o8 Mg, MSh.l8 Mg, MSh.p26 Mg, MSh.o9 Mg, MSh.l9 Mg, MSh.p32 Mg, MSh.o10 Mg, MSh.l10 Mg, MSh.p33 Mg, MSh.o11 Mg, MSh.l11 Mg, MSh.p35 Mg, MSh.o12 Mg, MSh.l12 Mg, MSh.p36 Mg, MSh.o13 Mg, MSh.l13 Mg, MSh.p37 Mg, MSh.o14 Mg, MSh.l14 Mg, MSh.p38 Mg, MSh.o15 Mg, MSh.l15 Mg, MSh.p39 Mg, MSh.o16 Mg, MSh.l16 Mg, MSh.p42 Mg, MSh.o17 Mg, MSh.l17 Mg, MSh.p43 Mg, MSh.o18 Mg, MSh.l18 Mg, MSh.p44 Mg, MSh.o19 Mg, MSh.l19 Mg, MSh.p45 Mg, MSh.o20 Mg, MSh.l20 Mg, MSh.p46 Mg, MSh.o21 Mg, MSh.l21 Mg, MSh.p47 Mg, MSh.o22 Mg, MSh.l22 Mg, MSh.p50 Mg, MSh.o23 Mg, MSh.l23 Mg, MSh.p51 Mg, MSh.o24 Mg, MSh.l24 Mg, MSh.p52 Mg, MSh.o25 Mg, MSh.l25 Mg, fd0, fd1, fd2, fd3, fd4, fd5, fd6, fd7, fd8, fd9, fd10, fd11, fd12, fd13, fd14, fd15, fd16, fd17, fd18, fd19, fd20, fd21, fd22, fd23, fd24, fd25, fd26, fd27, fd28, fd29, fd30, fd31, fd32, fd33, fd34, fd35, fd36, fd37, fd38, fd39, fd40, fd41, fd42, fd43, fd44, fd45, fd46, fd47, fd48, fd49, fd50, fd51, fd52, e40, -Int.reduceToNat, -Int32.reduceToNatClampNeg, il0, il1, il2, il3, il4, il5, il6, il7, il8, il9, il10, il11, il12, il13, il14, il15, il16, il17, il18, il19, il20, il21, il22, il23, il24, il25, il26, il27, il28, il29, il30, il31, il32, il35, il36, il38, il40, il42, il43, il44, il45, il46, il47, il48, il49, il50, il51, il52, il57, il59, il60, il63, il64, il75, il80, il95, il96, il97, il98, il99, il100, il120, il122, il123, il127, il128, il135, il167, il175, il225, il249, il250, il255, il256, il360, il370, il384, il600, il700, il740, il900, il940, il1024, il1600, il4800, il64000, il125000, il262143, il1000000000, iI_toInt, iI_add, iI_sub, iI_mul, iI_neg, iI_lt, iI_le, iI_eq, iI_n, iI_in, iI_div, iI_mod, iI_shm, iI_and1, iI_and7, iI_and63, iI_shr3, iI_shr6, rd_I, ob, Option.some.injEq, exists_eq_left', exists_eq_left, true_and, and_true, fqI, fqJ, eq_self, true_or, or_true, bP_0, bP_0i, npP, bP_1i, bP_b, not_true_eq_false, not_false_eq_true, false_implies, true_implies, implies_true, Classical.not_not, and_self]
    exact ⟨fun _ => K g Fg J3, fun u => by omega⟩
theorem m_keepFound (M : MSh h) (P : MRp h 104 105 106 107 125000 S) (I : BI (VB s t0 z) 0 (5 * s 2) S) (gs : GS s) (fw : few s) (e : EZ z s) (hg : 0 ≤ goal ∧ goal < 125000) (K0 : ¬ seenB S goal → post h (iI (-1))) (K1 : ∀ pl, 0 ≤ pl → pl < S.1 → S.2.1 pl = goal → ∀ g, Fr [92, 108] [] [] h g → rd g 92 40 = dpt S.2.2.1 pl → (∀ j, j ≠ 40 → rd g 92 j = rd h 92 j) → (∀ k : Nat, (k : Int) < dpt S.2.2.1 pl → rd g 108 (dpt S.2.2.1 pl - 1 - k) = dcd (S.2.2.2 (anc S.2.2.1 k pl))) → post g (iI (dpt S.2.2.1 pl))) : wp_X12_keepFound h 92 (iI goal) post := by
  have rb := rd_bd h 104 goal
  have t64 := I.le64 gs fw e
  unfold wp_X12_keepFound
  simp (disch := omega) only [MSh.o0 M, MSh.p1 M, MSh.o1 M, MSh.l1 M, MSh.p6 M, MSh.o2 M, MSh.l2 M, MSh.p7 M, MSh.o3 M, MSh.l3 M, MSh.p8 M, MSh.o4 M, MSh.l4 M, MSh.p9 M, MSh.o5 M, MSh.l5 M, MSh.p10 M, MSh.o6 M, MSh.l6 M, MSh.p24 M, MSh.o7 M, MSh.l7 M, MSh.p25 M, MSh.o8 M, MSh.l8 M, MSh.p26 M, MSh.o9 M, MSh.l9 M, MSh.p32 M, MSh.o10 M, MSh.l10 M, MSh.p33 M, MSh.o11 M, MSh.l11 M, MSh.p35 M, MSh.o12 M, MSh.l12 M, MSh.p36 M, MSh.o13 M, MSh.l13 M, MSh.p37 M, MSh.o14 M, MSh.l14 M, MSh.p38 M, MSh.o15 M, MSh.l15 M, MSh.p39 M, MSh.o16 M, MSh.l16 M, MSh.p42 M, MSh.o17 M, MSh.l17 M, MSh.p43 M, MSh.o18 M, MSh.l18 M, MSh.p44 M, MSh.o19 M, MSh.l19 M, MSh.p45 M, MSh.o20 M, MSh.l20 M, MSh.p46 M, MSh.o21 M, MSh.l21 M, MSh.p47 M, MSh.o22 M, MSh.l22 M, MSh.p50 M, MSh.o23 M, MSh.l23 M, MSh.p51 M, MSh.o24 M, MSh.l24 M, MSh.p52 M, MSh.o25 M, MSh.l25 M, fd0, fd1, fd2, fd3, fd4, fd5, fd6, fd7, fd8, fd9, fd10, fd11, fd12, fd13, fd14, fd15, fd16, fd17, fd18, fd19, fd20, fd21, fd22, fd23, fd24, fd25, fd26, fd27, fd28, fd29, fd30, fd31, fd32, fd33, fd34, fd35, fd36, fd37, fd38, fd39, fd40, fd41, fd42, fd43, fd44, fd45, fd46, fd47, fd48, fd49, fd50, fd51, fd52, -Int.reduceToNat, -Int32.reduceToNatClampNeg, il0, il1, il2, il3, il4, il5, il6, il7, il8, il9, il10, il11, il12, il13, il14, il15, il16, il17, il18, il19, il20, il21, il22, il23, il24, il25, il26, il27, il28, il29, il30, il31, il32, il35, il36, il38, il40, il42, il43, il44, il45, il46, il47, il48, il49, il50, il51, il52, il57, il59, il60, il63, il64, il75, il80, il95, il96, il97, il98, il99, il100, il120, il122, il123, il127, il128, il135, il167, il175, il225, il249, il250, il255, il256, il360, il370, il384, il600, il700, il740, il900, il940, il1024, il1600, il4800, il64000, il125000, il262143, il1000000000, iI_toInt, iI_add, iI_sub, iI_mul, iI_neg, iI_lt, iI_le, iI_eq, iI_n, iI_in, iI_div, iI_mod, iI_shm, iI_and1, iI_and7, iI_and63, iI_shr3, iI_shr6, rd_I, ob, Option.some.injEq, exists_eq_left', exists_eq_left, true_and, and_true, fqI, fqJ, eq_self, true_or, or_true, bP_0, bP_0i, npP, bP_1i, bP_b, not_true_eq_false, not_false_eq_true, false_implies, true_implies, implies_true, Classical.not_not, and_self]
  refine ⟨fun nn => ?_, fun ng => ?_⟩
  · have sn : seenB S goal := Classical.byContradiction fun q => by
      have := P.rn goal hg.1 hg.2 q
      omega
    obtain ⟨pl, p0, p1, pg⟩ := sn
    have er := P.rg pl p0 p1
    rw [pg] at er
    rw [er]
    have db := dpt_bd I.fg pl.toNat pl (by omega) p0 p1
    intro g1 w1
    obtain ⟨f1, r1⟩ := wI (i := 40) (by omega) (by omega) (by omega) w1
    have M1 := M.gr f1.gr
    have e40 : rd g1 92 40 = dpt S.2.2.1 pl := by rw [r1, updT_s]
    simp (disch := omega) only [MSh.o0 M1, MSh.p1 M1, MSh.o1 M1, MSh.l1 M1, MSh.p6 M1, MSh.o2 M1, MSh.l2 M1, MSh.p7 M1, MSh.o3 M1, MSh.l3 M1, MSh.p8 M1, MSh.o4 M1, MSh.l4 M1, MSh.p9 M1, MSh.o5 M1, MSh.l5 M1, MSh.p10 M1, MSh.o6 M1, MSh.l6 M1, MSh.p24 M1, MSh.o7 M1, MSh.l7 M1, MSh.p25 M1, MSh.o8 M1, MSh.l8 M1, MSh.p26 M1, MSh.o9 M1, MSh.l9 M1, MSh.p32 M1, MSh.o10 M1, MSh.l10 M1, MSh.p33 M1, MSh.o11 M1, MSh.l11 M1, MSh.p35 M1, MSh.o12 M1, MSh.l12 M1, MSh.p36 M1, MSh.o13 M1, MSh.l13 M1, MSh.p37 M1, MSh.o14 M1, MSh.l14 M1, MSh.p38 M1, MSh.o15 M1, MSh.l15 M1, MSh.p39 M1, MSh.o16 M1, MSh.l16 M1, MSh.p42 M1, MSh.o17 M1, MSh.l17 M1, MSh.p43 M1, MSh.o18 M1, MSh.l18 M1, MSh.p44 M1, MSh.o19 M1, MSh.l19 M1, MSh.p45 M1, MSh.o20 M1, MSh.l20 M1, MSh.p46 M1, MSh.o21 M1, MSh.l21 M1, MSh.p47 M1, MSh.o22 M1, MSh.l22 M1, MSh.p50 M1, MSh.o23 M1, MSh.l23 M1, MSh.p51 M1, MSh.o24 M1, MSh.l24 M1, MSh.p52 M1, MSh.o25 M1, MSh.l25 M1, fd0, fd1, fd2, fd3, fd4, fd5, fd6, fd7, fd8, fd9, fd10, fd11, fd12, fd13, fd14, fd15, fd16, fd17, fd18, fd19, fd20, fd21, fd22, fd23, fd24, fd25, fd26, fd27, fd28, fd29, fd30, fd31, fd32, fd33, fd34, fd35, fd36, fd37, fd38, fd39, fd40, fd41, fd42, fd43, fd44, fd45, fd46, fd47, fd48, fd49, fd50, fd51, fd52, e40, -Int.reduceToNat, -Int32.reduceToNatClampNeg, il0, il1, il2, il3, il4, il5, il6, il7, il8, il9, il10, il11, il12, il13, il14, il15, il16, il17, il18, il19, il20, il21, il22, il23, il24, il25, il26, il27, il28, il29, il30, il31, il32, il35, il36, il38, il40, il42, il43, il44, il45, il46, il47, il48, il49, il50, il51, il52, il57, il59, il60, il63, il64, il75, il80, il95, il96, il97, il98, il99, il100, il120, il122, il123, il127, il128, il135, il167, il175, il225, il249, il250, il255, il256, il360, il370, il384, il600, il700, il740, il900, il940, il1024, il1600, il4800, il64000, il125000, il262143, il1000000000, iI_toInt, iI_add, iI_sub, iI_mul, iI_neg, iI_lt, iI_le, iI_eq, iI_n, iI_in, iI_div, iI_mod, iI_shm, iI_and1, iI_and7, iI_and63, iI_shr3, iI_shr6, rd_I, ob, Option.some.injEq, exists_eq_left', exists_eq_left, true_and, and_true, fqI, fqJ, eq_self, true_or, or_true, bP_0, bP_0i, npP, bP_1i, bP_b, not_true_eq_false, not_false_eq_true, false_implies, true_implies, implies_true, Classical.not_not, and_self]
    rw [← pg]
    refine m_keepBack M1 (P.cg (f1.row (by simp)) (f1.row (by simp)) (f1.row (by simp)) (f1.row (by simp))) I gs fw e p0 p1 e40 fun h' F' y' => ?_
    exact K1 pl p0 p1 pg h' ((f1.mono (by simp) (by simp) (by simp)).trans (F'.mono (by simp) (by simp) (by simp))) (by rw [F'.row (by simp)]; exact e40) (fun j hj => by rw [F'.row (by simp), r1, updT_n hj]) y'
  · refine K0 fun ⟨pl, p0, p1, pg⟩ => ng ?_
    have er := P.rg pl p0 p1
    rw [pg] at er
    rw [er]
    exact (dpt_bd I.fg pl.toNat pl (by omega) p0 p1).1
/-- for LEAST both end alike -/
theorem run_LB (gs : GS s) (fw : few s) (e : EZ z s) (hg : 0 ≤ goal) : ∀ (dd : Nat) (i : Int) (S : BS), BI (VB s t0 z) 0 (5 * s 2) S → 0 ≤ i → bRun (nxB s t0 z hr) 0 (5 * s 2).toNat (stpB goal 1000000000) dd i S = bRun (nxB s t0 z hr) 0 (5 * s 2).toNat (fun _ S => seenB S goal) dd i S := by
  have b2 := gs.1.1 2 (by omega) (by omega)
  have nxt : ∀ v a, VB s t0 z v → 0 ≤ a → a < 5 * s 2 → 0 ≤ nxB s t0 z hr v a → VB s t0 z (nxB s t0 z hr v a) := fun v a hv a0 a1 hn => nxB_cl gs fw e a0 a1 hv hn
  intro dd
  induction dd with
  | zero => intro i S _ _; rfl
  | succ dd ih =>
    intro i S I i0
    have t64 := I.le64 gs fw e
    rw [bRun, bRun]
    by_cases c : i < S.1 ∧ ¬ seenB S goal
    · have db := dpt_bd I.fg i.toNat i (by omega) i0 c.1
      rw [ite_t c, ite_t (c := i < S.1 ∧ ¬ stpB goal 1000000000 i S) ⟨c.1, fun q => q.elim (fun w => c.2 w.2) (fun w => by omega)⟩]
      exact ih (i + 1) _ (bHead_I (nx := nxB s t0 z hr) I i0 c.1 nxt (5 * s 2).toNat (by omega)) (by omega)
    · rw [ite_f c, ite_f (c := i < S.1 ∧ ¬ stpB goal 1000000000 i S) fun q => c ⟨q.1, fun w => q.2 (Or.inl ⟨hg, w⟩)⟩]
end MR3
