/-! alone() in both -/
section XAL
variable {h h1 h2 h' h0 g : AH} {i la fr qa ac qa' ac' : Nat} {K : AH → Prop} {postV : AH → Prop} {post : AH → Int32 → Prop} {a b c d f j k t' v w x y pl r hr how goal st u : Int} {s t z X F B : Int → Int} {S : BS}
theorem m_aloneInit (M : MSh h) (hst : 0 ≤ st ∧ st < 128) (K : ∀ h', Fr [109, 112] [] [] h h' → MRp h' 109 110 111 112 128 (bGo st) → ∃ k, wl_X12_alone_123 post k h' 92 (iI r) (iI hr) (iI goal) (iI 1) (iI 0)) : ∃ k, wl_X12_alone_79 post k h 92 (iI r) (iI hr) (iI st) (iI goal) (iI 0) := by
  refine lf_for (W := fun k (b : AH) i => wl_X12_alone_79 post k b 92 (iI r) (iI hr) (iI st) (iI goal) (iI i)) (lo := 0) (hi := 128) (fun i b => Fr [109, 112] [] [] h b ∧ ∀ w, 0 ≤ w → w < i → rd b 109 w = -1) (by omega) (fun k g i i0 i1 J nx => ?_) (fun k g J => ?_) h ⟨(Fr.refl h).mono (by simp) (by simp) (by simp), fun w w0 w1 => by omega⟩
  · show wb_X12_alone_79 (wl_X12_alone_79 post k) g 92 (iI r) (iI hr) (iI st) (iI goal) (iI i) post
    have Mg := M.gr J.1.gr
    unfold wb_X12_alone_79
    simp (disch := omega) only [MSh.o0 Mg, MSh.p1 Mg, MSh.o1 Mg, MSh.l1 Mg, MSh.p6 Mg, MSh.o2 Mg, MSh.l2 Mg, MSh.p7 Mg, MSh.o3 Mg, MSh.l3 Mg, MSh.p8 Mg, MSh.o4 Mg, MSh.l4 Mg, MSh.p9 Mg, MSh.o5 Mg, MSh.l5 Mg, MSh.p10 Mg, MSh.o6 Mg, MSh.l6 Mg, MSh.p24 Mg, MSh.o7 Mg, MSh.l7 Mg, MSh.p25 Mg, MSh.o8 Mg, MSh.l8 Mg, MSh.p26 Mg, MSh.o9 Mg, MSh.l9 Mg, MSh.p32 Mg, MSh.o10 Mg, MSh.l10 Mg, MSh.p33 Mg, MSh.o11 Mg, MSh.l11 Mg, MSh.p35 Mg, MSh.o12 Mg, MSh.l12 Mg, MSh.p36 Mg, MSh.o13 Mg, MSh.l13 Mg, MSh.p37 Mg, MSh.o14 Mg, MSh.l14 Mg, MSh.p38 Mg, MSh.o15 Mg, MSh.l15 Mg, MSh.p39 Mg, MSh.o16 Mg, MSh.l16 Mg, MSh.p42 Mg, MSh.o17 Mg, MSh.l17 Mg, MSh.p43 Mg, MSh.o18 Mg, MSh.l18 Mg, MSh.p44 Mg, MSh.o19 Mg, MSh.l19 Mg, MSh.p45 Mg, MSh.o20 Mg, MSh.l20 Mg, MSh.p46 Mg, MSh.o21 Mg, MSh.l21 Mg, MSh.p47 Mg, MSh.o22 Mg, MSh.l22 Mg, MSh.p50 Mg, MSh.o23 Mg, MSh.l23 Mg, MSh.p51 Mg, MSh.o24 Mg, MSh.l24 Mg, MSh.p52 Mg, MSh.o25 Mg, MSh.l25 Mg, -Int.reduceToNat, -Int32.reduceToNatClampNeg, il0, il1, il2, il3, il4, il5, il6, il7, il8, il9, il10, il11, il12, il13, il14, il15, il16, il17, il18, il19, il20, il21, il22, il23, il24, il25, il26, il27, il28, il29, il30, il31, il32, il35, il36, il38, il40, il42, il43, il44, il45, il46, il47, il48, il49, il50, il51, il52, il57, il59, il60, il63, il64, il75, il80, il95, il96, il97, il98, il99, il100, il120, il122, il123, il127, il128, il135, il167, il175, il225, il249, il250, il255, il256, il360, il370, il384, il600, il700, il740, il900, il940, il1024, il1600, il4800, il64000, il125000, il262143, il1000000000, iI_toInt, iI_add, iI_sub, iI_mul, iI_neg, iI_lt, iI_le, iI_eq, iI_n, iI_in, iI_div, iI_mod, iI_shm, iI_and1, iI_and7, iI_and63, iI_shr3, iI_shr6, rd_I, ob, Option.some.injEq, exists_eq_left', exists_eq_left, true_and, and_true, fqI, fqJ, eq_self, true_or, or_true, bP_0, bP_0i, npP, bP_1i, bP_b, not_true_eq_false, not_false_eq_true, false_implies, true_implies, implies_true, Classical.not_not, and_self]
    refine ⟨fun u => by omega, fun _ => ?_⟩
    intro g1 w1
    obtain ⟨f1, r1⟩ := wI (i := i) (by omega) (by omega) (by omega) w1
    refine nx g1 ⟨J.1.trans (f1.mono (by simp) (by simp) (by simp)), fun w w0 w1 => ?_⟩
    rw [r1]
    by_cases cw : w = i
    · rw [cw, updT_s]
    · rw [updT_n cw]; exact J.2 w w0 (by omega)
  · show wb_X12_alone_79 (wl_X12_alone_79 post k) g 92 (iI r) (iI hr) (iI st) (iI goal) (iI 128) post
    have Mg := M.gr J.1.gr
    unfold wb_X12_alone_79
    simp (disch := omega) only [MSh.o0 Mg, MSh.p1 Mg, MSh.o1 Mg, MSh.l1 Mg, MSh.p6 Mg, MSh.o2 Mg, MSh.l2 Mg, MSh.p7 Mg, MSh.o3 Mg, MSh.l3 Mg, MSh.p8 Mg, MSh.o4 Mg, MSh.l4 Mg, MSh.p9 Mg, MSh.o5 Mg, MSh.l5 Mg, MSh.p10 Mg, MSh.o6 Mg, MSh.l6 Mg, MSh.p24 Mg, MSh.o7 Mg, MSh.l7 Mg, MSh.p25 Mg, MSh.o8 Mg, MSh.l8 Mg, MSh.p26 Mg, MSh.o9 Mg, MSh.l9 Mg, MSh.p32 Mg, MSh.o10 Mg, MSh.l10 Mg, MSh.p33 Mg, MSh.o11 Mg, MSh.l11 Mg, MSh.p35 Mg, MSh.o12 Mg, MSh.l12 Mg, MSh.p36 Mg, MSh.o13 Mg, MSh.l13 Mg, MSh.p37 Mg, MSh.o14 Mg, MSh.l14 Mg, MSh.p38 Mg, MSh.o15 Mg, MSh.l15 Mg, MSh.p39 Mg, MSh.o16 Mg, MSh.l16 Mg, MSh.p42 Mg, MSh.o17 Mg, MSh.l17 Mg, MSh.p43 Mg, MSh.o18 Mg, MSh.l18 Mg, MSh.p44 Mg, MSh.o19 Mg, MSh.l19 Mg, MSh.p45 Mg, MSh.o20 Mg, MSh.l20 Mg, MSh.p46 Mg, MSh.o21 Mg, MSh.l21 Mg, MSh.p47 Mg, MSh.o22 Mg, MSh.l22 Mg, MSh.p50 Mg, MSh.o23 Mg, MSh.l23 Mg, MSh.p51 Mg, MSh.o24 Mg, MSh.l24 Mg, MSh.p52 Mg, MSh.o25 Mg, MSh.l25 Mg, -Int.reduceToNat, -Int32.reduceToNatClampNeg, il0, il1, il2, il3, il4, il5, il6, il7, il8, il9, il10, il11, il12, il13, il14, il15, il16, il17, il18, il19, il20, il21, il22, il23, il24, il25, il26, il27, il28, il29, il30, il31, il32, il35, il36, il38, il40, il42, il43, il44, il45, il46, il47, il48, il49, il50, il51, il52, il57, il59, il60, il63, il64, il75, il80, il95, il96, il97, il98, il99, il100, il120, il122, il123, il127, il128, il135, il167, il175, il225, il249, il250, il255, il256, il360, il370, il384, il600, il700, il740, il900, il940, il1024, il1600, il4800, il64000, il125000, il262143, il1000000000, iI_toInt, iI_add, iI_sub, iI_mul, iI_neg, iI_lt, iI_le, iI_eq, iI_n, iI_in, iI_div, iI_mod, iI_shm, iI_and1, iI_and7, iI_and63, iI_shr3, iI_shr6, rd_I, ob, Option.some.injEq, exists_eq_left', exists_eq_left, true_and, and_true, fqI, fqJ, eq_self, true_or, or_true, bP_0, bP_0i, npP, bP_1i, bP_b, not_true_eq_false, not_false_eq_true, false_implies, true_implies, implies_true, Classical.not_not, and_self]
    refine ⟨fun _ => ?_, fun u => by omega⟩
    intro g1 w1
    obtain ⟨f1, r1⟩ := wI (i := st) (by omega) (by omega) (by omega) w1
    have M1 := Mg.gr f1.gr
    simp (disch := omega) only [MSh.o0 M1, MSh.p1 M1, MSh.o1 M1, MSh.l1 M1, MSh.p6 M1, MSh.o2 M1, MSh.l2 M1, MSh.p7 M1, MSh.o3 M1, MSh.l3 M1, MSh.p8 M1, MSh.o4 M1, MSh.l4 M1, MSh.p9 M1, MSh.o5 M1, MSh.l5 M1, MSh.p10 M1, MSh.o6 M1, MSh.l6 M1, MSh.p24 M1, MSh.o7 M1, MSh.l7 M1, MSh.p25 M1, MSh.o8 M1, MSh.l8 M1, MSh.p26 M1, MSh.o9 M1, MSh.l9 M1, MSh.p32 M1, MSh.o10 M1, MSh.l10 M1, MSh.p33 M1, MSh.o11 M1, MSh.l11 M1, MSh.p35 M1, MSh.o12 M1, MSh.l12 M1, MSh.p36 M1, MSh.o13 M1, MSh.l13 M1, MSh.p37 M1, MSh.o14 M1, MSh.l14 M1, MSh.p38 M1, MSh.o15 M1, MSh.l15 M1, MSh.p39 M1, MSh.o16 M1, MSh.l16 M1, MSh.p42 M1, MSh.o17 M1, MSh.l17 M1, MSh.p43 M1, MSh.o18 M1, MSh.l18 M1, MSh.p44 M1, MSh.o19 M1, MSh.l19 M1, MSh.p45 M1, MSh.o20 M1, MSh.l20 M1, MSh.p46 M1, MSh.o21 M1, MSh.l21 M1, MSh.p47 M1, MSh.o22 M1, MSh.l22 M1, MSh.p50 M1, MSh.o23 M1, MSh.l23 M1, MSh.p51 M1, MSh.o24 M1, MSh.l24 M1, MSh.p52 M1, MSh.o25 M1, MSh.l25 M1, -Int.reduceToNat, -Int32.reduceToNatClampNeg, il0, il1, il2, il3, il4, il5, il6, il7, il8, il9, il10, il11, il12, il13, il14, il15, il16, il17, il18, il19, il20, il21, il22, il23, il24, il25, il26, il27, il28, il29, il30, il31, il32, il35, il36, il38, il40, il42, il43, il44, il45, il46, il47, il48, il49, il50, il51, il52, il57, il59, il60, il63, il64, il75, il80, il95, il96, il97, il98, il99, il100, il120, il122, il123, il127, il128, il135, il167, il175, il225, il249, il250, il255, il256, il360, il370, il384, il600, il700, il740, il900, il940, il1024, il1600, il4800, il64000, il125000, il262143, il1000000000, iI_toInt, iI_add, iI_sub, iI_mul, iI_neg, iI_lt, iI_le, iI_eq, iI_n, iI_in, iI_div, iI_mod, iI_shm, iI_and1, iI_and7, iI_and63, iI_shr3, iI_shr6, rd_I, ob, Option.some.injEq, exists_eq_left', exists_eq_left, true_and, and_true, fqI, fqJ, eq_self, true_or, or_true, bP_0, bP_0i, npP, bP_1i, bP_b, not_true_eq_false, not_false_eq_true, false_implies, true_implies, implies_true, Classical.not_not, and_self]
    intro g2 w2
    obtain ⟨f2, r2⟩ := wI (i := 0) (by omega) (by omega) (by omega) w2
    refine K g2 (J.1.trans ((f1.mono (by simp) (by simp) (by simp)).trans (f2.mono (by simp) (by simp) (by simp)))) (MRp.start (fun w w0 w1 => ?_) hst (by rw [r2, updT_s]))
    rw [f2.row (by simp), r1]
    by_cases cw : w = st
    · rw [cw, updT_s, if_pos rfl]
    · rw [updT_n cw, if_neg cw]; exact J.2 w w0 w1
theorem mX_alone (M : MSh h) (Z : Z24 h) (hG : GA (rd h 94)) (hx : -2147483648 ≤ r ∧ r < 2147483648) (p1 : -2147483648 ≤ x ∧ x < 2147483648) (p2 : -2147483648 ≤ y ∧ y < 2147483648) (p3 : -2147483648 ≤ u ∧ u < 2147483648) (p4 : -2147483648 ≤ hr ∧ hr < 2147483648)
    (KN : ∀ h', ¬ (spOk (rd h 94) (tS (rd h 94)) r x y u ∧ 0 ≤ hr ∧ hr < 24) → Qt h h' → post h' (iI (-2)))
    (K0 : ∀ h' goal, spOk (rd h 94) (tS (rd h 94)) r x y u ∧ 0 ≤ hr ∧ hr < 24 → goal = plc (lyT (rd h 94) (tS (rd h 94)) r x y u) r → ¬ seenB (runM (rd h 94) r hr) goal → Fr [92, 99, 100, 108, 109, 110, 111, 112] [] [] h h' → (∀ j, j ≠ 0 → rd h' 92 j = rd h 92 j) → rd h' 108 = rd h 108 → Z24 h' → post h' (iI (-1)))
    (K1 : ∀ h' goal pl, spOk (rd h 94) (tS (rd h 94)) r x y u ∧ 0 ≤ hr ∧ hr < 24 → goal = plc (lyT (rd h 94) (tS (rd h 94)) r x y u) r → BI (VA (rd h 94) (tS (rd h 94)) (zC (rd h 94)) r) (5 * r) (5 * r + 5) (runM (rd h 94) r hr) → 0 ≤ pl → pl < (runM (rd h 94) r hr).1 → (runM (rd h 94) r hr).2.1 pl = goal → Fr [92, 99, 100, 108, 109, 110, 111, 112] [] [] h h' → (∀ j, j ≠ 0 → j ≠ 40 → rd h' 92 j = rd h 92 j) → rd h' 92 40 = dpt (runM (rd h 94) r hr).2.2.1 pl → Z24 h' → (∀ k : Nat, (k : Int) < dpt (runM (rd h 94) r hr).2.2.1 pl → rd h' 108 (dpt (runM (rd h 94) r hr).2.2.1 pl - 1 - k) = dcd ((runM (rd h 94) r hr).2.2.2 (anc (runM (rd h 94) r hr).2.2.1 k pl))) → post h' (iI (dpt (runM (rd h 94) r hr).2.2.1 pl))) : wp_X12_alone h 92 (iI r) (iI x) (iI y) (iI u) (iI hr) post := by
  have bd := hG.bd
  unfold wp_X12_alone
  refine ⟨M.o0, fun h1 e1 => ?_⟩
  obtain ⟨M1, q1, f1, r1, -⟩ := m_thr0 M Z e1
  have e94 : rd h1 94 = rd h 94 := f1.row (by simp)
  have Z1' := q1.2.2
  have hG1 : GA (rd h1 94) := by rw [e94]; exact hG
  have bd1 := hG1.bd
  rw [show (iI (-2)) = (-2 : Int32) from rfl] at KN
  refine ⟨M1.o0, (m_isRaft M1 hx.1 hx.2 bd1.2.2.1.1 bd1.2.2.1.2).mpr ?_⟩
  rw [e94]
  by_cases c1 : 0 ≤ r ∧ r < rd h 94 2
  case neg => rw [bP_f c1]; exact ⟨fun _ => KN h1 (fun q => c1 q.1.1) q1, fun q => absurd rfl q⟩
  rw [bP_t c1]
  refine ⟨fun q => absurd q i10, fun _ => ⟨M1.o0, (m_isCell M1 p1.1 p1.2 p2.1 p2.2 bd1.1.1 bd1.1.2 bd1.2.1.1 bd1.2.1.2).mpr ?_⟩⟩
  rw [e94]
  by_cases c2 : 0 ≤ x ∧ x < rd h 94 0 ∧ 0 ≤ y ∧ y < rd h 94 1
  case neg => rw [bP_f c2]; exact ⟨fun _ => KN h1 (fun q => c2 q.1.2.1) q1, fun q => absurd rfl q⟩
  rw [bP_t c2]
  refine ⟨fun q => absurd q i10, fun _ => (m_isIn (b := 0) (c := 1) p3.1 p3.2 (by omega) (by omega) (by omega) (by omega)).mpr ?_⟩
  by_cases c3 : 0 ≤ u ∧ u ≤ 1
  case neg => rw [bP_f c3]; exact ⟨fun _ => KN h1 (fun q => c3 q.1.2.2.1) q1, fun q => absurd rfl q⟩
  rw [bP_t c3]
  refine ⟨fun q => absurd q i10, fun _ => (m_isHour p4.1 p4.2).mpr ?_⟩
  by_cases c4 : 0 ≤ hr ∧ hr < 24
  case neg => rw [bP_f c4]; exact ⟨fun q => absurd rfl q, fun _ => KN h1 (fun q => c4 q.2) q1⟩
  rw [bP_t c4]
  refine ⟨fun _ => ⟨M1.o0, ?_⟩, fun q => absurd q i10⟩
  refine m_asIt M1 Z1' fun h2 f2 e99 e100 => ?_
  rw [e94] at e99 e100
  have M2 := M1.gr f2.gr
  have d94 : rd h2 94 = rd h 94 := by rw [f2.row (by simp), e94]
  refine ⟨M2.o0, (m_place M2 c1.1 (by omega)).mpr ?_⟩
  rw [e99]
  have hc : cellS (rd h 94) x y := c2
  refine ⟨M2.o0, m_lays M2 (by rw [d94]; exact hG) (by rw [e100, d94]) c1.1 (by rw [d94]; exact c1.2) (by rw [d94]; exact hc) c3 fun h3 f3 e3 => ?_⟩
  rw [d94, e99] at e3 ⊢
  have M3 := M2.gr f3.gr
  have F3 : Fr [92, 99, 100] [] [] h h3 := (f1.mono (by simp) (by simp) (by simp)).trans ((f2.mono (by simp) (by simp) (by simp)).trans (f3.mono (by simp) (by simp) (by simp)))
  have r92 : ∀ j, j ≠ 0 → rd h3 92 j = rd h 92 j := fun j hj => by rw [f3.row (by simp), f2.row (by simp), r1, updT_n hj]
  have d100 : rd h3 100 = zC (rd h 94) := by rw [f3.row (by simp), e100]
  have z100 : ∀ j, 24 ≤ j → zC (rd h 94) j = 0 := fun j hj => if_neg (by omega)
  have z99 : ∀ j, 24 ≤ j → tS (rd h 94) j = 0 := fun j hj => if_neg (by omega)
  have t99 : ∀ j, j < 3 * r ∨ 3 * r + 2 < j → rd h3 99 j = tS (rd h 94) j := fun j hj => by rw [e3]; unfold lyT; exact tr3_n hj
  have Z3 : Z24 h3 := ⟨fun j hj => by rw [t99 j (by omega)]; exact z99 j hj, fun j hj => by rw [d100]; exact z100 j hj⟩
  have q3 : Qt h h3 := ⟨F3.mono (by simp) (by simp) (by simp), fun j hj => r92 j (fun e => by rw [e] at hj; exact absurd hj (by decide)), Z3⟩
  by_cases ci : insT (rd h 94) (lyT (rd h 94) (tS (rd h 94)) r x y u) (zC (rd h 94)) r
  case neg => rw [bP_f ci]; exact ⟨fun q => absurd rfl q, fun _ => KN h3 (fun q => ci q.1.2.2.2) q3⟩
  rw [bP_t ci]
  refine ⟨fun _ => ⟨M3.o0, (m_place M3 c1.1 (by omega)).mpr ?_⟩, fun q => absurd q i10⟩
  rw [e3]
  have cond : spOk (rd h 94) (tS (rd h 94)) r x y u ∧ 0 ≤ hr ∧ hr < 24 := ⟨⟨c1, hc, c3, ci⟩, c4⟩
  have K0 := fun h' => K0 h' _ cond rfl
  have K1 := fun h' pl => K1 h' _ pl cond rfl
  have SpG := ly_spot (t := tS (rd h 94)) hG c1.1 c1.2 hc c3
  have SpT := (hG.vt r c1.1 c1.2).1
  generalize hgo : plc (lyT (rd h 94) (tS (rd h 94)) r x y u) r = goal at *
  have hg : 0 ≤ goal ∧ goal < 128 := by
    rw [← hgo]
    obtain ⟨⟨a1, a2⟩, ⟨b1, b2⟩, ⟨c1, c2⟩, -⟩ := SpG
    unfold plc; omega
  have hrun : runM (rd h 94) r hr = bRun (nxA (rd h 94) (tS (rd h 94)) (zC (rd h 94)) r hr) (5 * r) 5 (fun _ _ => False) 128 0 (bGo (plc (tS (rd h 94)) r)) := rfl
  have pid : ptA (tS (rd h 94)) r (plc (tS (rd h 94)) r) = tS (rd h 94) := (pt_id SpT).symm
  generalize hst : plc (tS (rd h 94)) r = st at *
  have hstb : 0 ≤ st ∧ st < 128 := by
    rw [← hst]
    obtain ⟨⟨a1, a2⟩, ⟨b1, b2⟩, ⟨c1, c2⟩, -⟩ := SpT
    unfold plc; omega
  refine m_aloneInit M3 hstb fun h4 f4 P4 => ?_
  have A4 : MA1 h3 h4 (rd h 94) (tS (rd h 94)) (zC (rd h 94)) r (bGo st) := ⟨M3.gr f4.gr, f4.mono (by simp) (by simp) (by simp), by rw [f4.row (by simp), f3.row (by simp)]; exact d94, by rw [f4.row (by simp)]; exact d100, fun j hj => by rw [f4.row (by simp)]; exact t99 j hj, P4⟩
  have I4 : BI (VA (rd h 94) (tS (rd h 94)) (zC (rd h 94)) r) (5 * r) (5 * r + 5) (bGo st) := BI.go ⟨hstb, by rw [pid]; exact hG.vt⟩
  refine ⟨128 + 1, m_aloneLoop (h0 := h3) (R0 := runM (rd h 94) r hr) hG.1 (EZ.c _) c1 c4 hg (fun h' S' A I eS ns => ?_) (fun h' S' pl A I eS pl0 pl1 pg g Fg e40 ro yy => ?_) 128 0 (bGo st) h4 A4 I4 (by omega) (by omega) hrun⟩
  · subst eS
    have FF := A.FF
    exact K0 h' ns ((F3.mono (by simp) (by simp) (by simp)).trans (FF.mono (by simp) (by simp) (by simp))) (fun j hj => by rw [FF.row (by simp)]; exact r92 j hj) (by rw [FF.row (by simp), F3.row (by simp)]) ⟨fun j hj => by rw [A.t99 j (by omega)]; exact z99 j hj, fun j hj => by rw [A.z10]; exact z100 j hj⟩
  · subst eS
    have FF := A.FF
    exact K1 g pl I pl0 pl1 pg ((F3.mono (by simp) (by simp) (by simp)).trans ((FF.mono (by simp) (by simp) (by simp)).trans (Fg.mono (by simp) (by simp) (by simp)))) (fun j hj h40 => by rw [ro j h40, FF.row (by simp)]; exact r92 j hj) e40 ⟨fun j hj => by rw [Fg.row (by simp), A.t99 j (by omega)]; exact z99 j hj, fun j hj => by rw [Fg.row (by simp), A.z10]; exact z100 j hj⟩ yy
theorem room_n {a b i : Nat} (h1 : a ≤ b + 600) (h2 : b ≤ 200 + 600 * i) : a ≤ 200 + 600 * (i + 1) := by
  have h3 := Nat.add_le_add_right h2 600
  rw [Nat.add_assoc, ← Nat.mul_succ] at h3
  exact Nat.le_trans h1 h3
theorem room_s {a b p q p' q' i : Nat} (h1 : a + 2 * p + 2 * q ≤ b + 2 * p' + 2 * q') (h2 : b ≤ 700000 + 4000 * i + 2 * p + 2 * q) : a ≤ 700000 + 4000 * (i + 1) + 2 * p' + 2 * q' := by omega
/-- a search done in both -/
theorem Inv.search (I : Inv h i la fr qa ac) {vi : List Nat} {Y : Nat → Int} (O : SO h h1 qa ac qa' ac' v Y) (F : Fr vi [] [] h1 h2) (hv : ∀ a, a ∈ vi → a ∈ [92, 99, 100, 101, 104, 105, 106, 107, 108, 109, 110, 111, 112]) (eq : ∀ j, j ∈ QW → j ≠ 40 → rd h2 92 j = rd h1 92 j) (Z : Z24 h2)
    (hf : (v = -1 ∧ rd h2 92 40 = rd h1 92 40 ∧ rd h2 108 = rd h1 108) ∨ (0 ≤ v ∧ rd h2 92 40 = v ∧ ∀ k : Nat, (k : Int) < v → rd h2 108 (v - 1 - k) = Y k)) : Inv h2 (i + 1) la fr qa' ac' := by
  have hl := I.hl
  have lt := fun (a : Nat) (ha : a ≤ 118) => I.lt ha
  have I0 := I
  obtain ⟨G, r74, p2, oq, ql, qd, qn, p8, oa, al, ad, an, rN, rS, vv⟩ := O
  obtain ⟨c1, c2, c3, c4, c5, c6, c7, c8, c9, c10, c11, c12, c13, c14, c15, c16, c17, c18⟩ := I
  have qold := c14.2.2.2.2.2.2.2.2.2
  have GG : Gr (sGi ac ++ [92, 99, 100, 101, 104, 105, 106, 107, 108, 109, 110, 111, 112]) (sGj qa) sGq h h2 := (G.mono (fun a q => List.mem_append_left _ q) (fun _ q => q) (fun _ q => q) G.1).via F.gr (fun a _ q => List.mem_append_right _ (hv a q)) (fun _ _ q => absurd q List.not_mem_nil) (fun _ _ _ q => absurd q List.not_mem_nil)
  have nin : ∀ a, a ≤ 118 → a ∉ [74, 77, 78, 81, 82, 84, 85, 87, 90, 92, 99, 100, 101, 104, 105, 106, 107, 108, 109, 110, 111, 112] → a ∉ sGi ac ++ [92, 99, 100, 101, 104, 105, 106, 107, 108, 109, 110, 111, 112] := fun a ha hb q => by
    unfold sGi at q
    simp only [List.mem_append, List.mem_cons, List.not_mem_nil, or_false] at q hb
    omega
  have rr : ∀ a, a ≤ 118 → a ∉ [74, 77, 78, 81, 82, 84, 85, 87, 90, 92, 99, 100, 101, 104, 105, 106, 107, 108, 109, 110, 111, 112] → rd h2 a = rd h a := fun a ha hb => GG.row (lt a ha) (nin a ha hb)
  have jj : ∀ a, a ≤ 118 → a ∉ [75, 76, 83, 86, 88, 91] → aJ h2 a = aJ h a := fun a ha hb => GG.jow (lt a ha) fun q => by
    unfold sGj at q
    simp only [List.mem_cons, List.not_mem_nil, or_false] at q hb
    omega
  have r1 : ∀ a, a ≤ 118 → 92 ≤ a → rd h1 a = rd h a := fun a ha hb => G.row (lt a ha) fun q => by
    unfold sGi at q
    simp only [List.mem_cons, List.not_mem_nil, or_false] at q
    omega
  have e92 : ∀ j, j ∈ QW → j ≠ 40 → rd h2 92 j = rd h 92 j := fun j hj h4 => by rw [eq j hj h4, r1 92 (by omega) (by omega)]
  have row74 : rd h2 74 = rd h1 74 := F.row fun q => by have := hv _ q; simp at this
  have rowac : rd h2 ac' = rd h1 ac' := F.row fun q => by
    have := hv _ q
    simp only [List.mem_cons, List.not_mem_nil, or_false] at this
    omega
  have e94 : rd h2 94 = rd h 94 := rr 94 (by omega) (by decide)
  have e97 : aJ h2 97 = aJ h 97 := jj 97 (by omega) (by decide)
  have la5 : la = 5 ∨ la = 32 := by omega
  have scn : Scn h2 31 la (rd h2 94) (aJ h2 97) := by
    rw [e94, e97]
    exact c8.gr GG (by omega) (Or.inl rfl) (by unfold sGq; decide) (by unfold sGq; decide) (fun j hj => nin _ (by omega) (by simp; omega)) (fun j hj q => by unfold sGj at q; simp only [List.mem_cons, List.not_mem_nil, or_false] at q; omega) (nin _ (by omega) (by decide)) (nin _ (by omega) (by decide)) (fun q => by unfold sGj at q; simp only [List.mem_cons, List.not_mem_nil, or_false] at q; omega) (nin _ (by omega) (by decide)) (nin _ (by omega) (by decide))
  refine I0.step GG hl ((GG.dyn (lt 2 (by omega)) (by unfold sGq; decide)).trans c6) scn (by rw [e94]; exact c9) Z (c11.gr (by rw [rr 0 (by omega) (by decide)]) (e92 _ (by decide) (by omega)) (rr 1 (by omega) (by decide)) (rr 93 (by omega) (by decide))) (c12.gr (by rw [rr 0 (by omega) (by decide)]) (e92 _ (by decide) (by omega))) (c13.gr (by rw [rr 0 (by omega) (by decide)]) (by rw [rr 0 (by omega) (by decide)]) (by rw [rr 0 (by omega) (by decide)]) (e92 _ (by decide) (by omega)) (rr _ (by omega) (by decide)) (rr _ (by omega) (by decide)) (rr _ (by omega) (by decide)) (rr _ (by omega) (by decide))) ?_ (c15.gr (e92 _ (by decide) (by omega)) (e92 _ (by decide) (by omega)) (by rw [row74]; exact r74 13 (by omega)) (by rw [row74]; exact r74 14 (by omega)) (rr _ (by omega) (by decide)) (rr _ (by omega) (by decide))) (c16.gr GG c1 (by unfold sGq; decide) (by unfold sGq; decide) (rr _ (by omega) (by decide)) (jj _ (by omega) (by decide)) (rr _ (by omega) (by decide)) ?_ ⟨qn, an⟩) (c17.gr (rr _ (by omega) (by decide)) (rr _ (by omega) (by decide)) (jj _ (by omega) (by decide))) ?_
  · have l74 : 74 < aN h1 := G.2.1 |> fun q => by have := lt 74 (by omega); omega
    refine ⟨by rw [F.aPe]; exact p2, F.gr.ob oq, by rw [F.2.2.2.1]; exact ql, by rw [F.aPe]; exact p8, F.gr.ob oa, by rw [F.2.2.2.1]; exact al, ?_, ?_, ?_, qd, ad⟩
    · rcases vv with ⟨v1, v2, v3, v4⟩ | ⟨v1, v2, v3, v4, v5⟩
      · rcases hf with ⟨w1, w2, w3⟩ | ⟨w1, w2, w3⟩
        · rw [row74, v2, w2, r1 92 (by omega) (by omega)]; exact c14.2.2.2.2.2.2.1
        · omega
      · rcases hf with ⟨w1, w2, w3⟩ | ⟨w1, w2, w3⟩
        · omega
        · rw [row74, v4, w2]
    · rw [F.2.2.2.1]
      rcases vv with ⟨v1, v2, v3, v4⟩ | ⟨v1, v2, v3, v4, v5⟩
      · rcases hf with ⟨w1, w2, w3⟩ | ⟨w1, w2, w3⟩
        · have o8 := c14.2.2.2.2.2.2.2.1
          rw [w2, r1 92 (by omega) (by omega), v3, G.len c14.2.2.2.2.1.2]; exact o8
        · omega
      · rcases hf with ⟨w1, w2, w3⟩ | ⟨w1, w2, w3⟩
        · omega
        · rw [w2]; omega
    · intro j j0 j1
      rcases vv with ⟨v1, v2, v3, v4⟩ | ⟨v1, v2, v3, v4, v5⟩
      · rcases hf with ⟨w1, w2, w3⟩ | ⟨w1, w2, w3⟩
        · rw [w2, r1 92 (by omega) (by omega)] at j1
          rw [rowac, w3, v3, v4, r1 108 (by omega) (by omega)]
          exact c14.2.2.2.2.2.2.2.2.1 j j0 j1
        · omega
      · rcases hf with ⟨w1, w2, w3⟩ | ⟨w1, w2, w3⟩
        · omega
        · rw [w2] at j1
          have a1 := v5 (v - 1 - j).toNat (by omega)
          have a2 := w3 (v - 1 - j).toNat (by omega)
          rw [show v - 1 - ((v - 1 - j).toNat : Int) = j by omega] at a1 a2
          rw [rowac, a1, a2]
  · refine ⟨fun a ha => ?_, fun a ha => ?_⟩
    · unfold sGi at ha
      simp only [List.mem_append, List.mem_cons, List.not_mem_nil, or_false] at ha
      omega
    · unfold sGj at ha
      simp only [List.mem_cons, List.not_mem_nil, or_false] at ha
      omega
  · obtain ⟨x1, x2⟩ := c18
    unfold IvR
    rw [F.1, F.2.1, F.2.2.2.1]
    exact ⟨room_n rN x1, room_s rS x2⟩
theorem x_alone (I : Inv h i la fr qa ac) (hi : i ≤ 512) (p0 : -2147483648 ≤ r) (p0' : r < 2147483648) (p1 : -2147483648 ≤ x) (p1' : x < 2147483648) (p2 : -2147483648 ≤ y) (p2' : y < 2147483648) (p3 : -2147483648 ≤ u) (p3' : u < 2147483648) (p4 : -2147483648 ≤ hr) (p4' : hr < 2147483648) (hK : ∀ h2, RtI (i + 1) h2 → K h2) : wp_X11_alone h 0 (iI r) (iI x) (iI y) (iI u) (iI hr) (fun h1 v1 => ob h1 92 11 ∧ wp_X12_alone h1 92 (iI r) (iI x) (iI y) (iI u) (iI hr) (Ag K v1)) := by
  have hG := I.ga
  have lt := fun (a : Nat) (ha : a ≤ 118) => I.lt ha
  have pre : ∀ {h1 qa' ac' v Y}, SO h h1 qa ac qa' ac' v Y → MSh h1 ∧ Z24 h1 ∧ rd h1 94 = rd h 94 := fun {h1 qa' ac' v Y} O => by
    have qold := I.q.2.2.2.2.2.2.2.2.2
    have r1 : ∀ a, a ≤ 118 → 92 ≤ a → rd h1 a = rd h a := fun a ha hb => O.G.row (lt a ha) fun q => by
      unfold sGi at q
      simp only [List.mem_cons, List.not_mem_nil, or_false] at q
      omega
    exact ⟨I.m.gr O.G, ⟨fun j hj => by rw [r1 99 (by omega) (by omega)]; exact I.z.1 j hj, fun j hj => by rw [r1 100 (by omega) (by omega)]; exact I.z.2 j hj⟩, r1 94 (by omega) (by omega)⟩
  refine cX_alone I hi ⟨p0, p0'⟩ ⟨p1, p1'⟩ ⟨p2, p2'⟩ ⟨p3, p3'⟩ ⟨p4, p4'⟩ (fun nc => ?_) (fun h1 qa' goal c eg ns O => ?_) (fun h1 qa' ac' goal pl c eg pl0 pl1 pg O => ?_)
  · exact ⟨I.m.o0, mX_alone I.m I.z hG ⟨p0, p0'⟩ ⟨p1, p1'⟩ ⟨p2, p2'⟩ ⟨p3, p3'⟩ ⟨p4, p4'⟩ (fun h2 _ q2 => Ag.same (hK _ (I.qt q2 (Nat.le_succ _)).rt)) (fun h2 g c => absurd c nc) (fun h2 g pl c => absurd c nc)⟩
  · obtain ⟨M1, Z1', e94⟩ := pre O
    refine ⟨M1.o0, mX_alone M1 Z1' (by rw [e94]; exact hG) ⟨p0, p0'⟩ ⟨p1, p1'⟩ ⟨p2, p2'⟩ ⟨p3, p3'⟩ ⟨p4, p4'⟩ (fun h2 nc => ?_) (fun h2 goal' c' eg' ns' F ro e108 Z2 => ?_) (fun h2 goal' pl c' eg' I2 pl0 pl1 pg F => ?_)⟩
    · rw [e94] at nc; exact absurd c nc
    · exact Ag.same (hK _ (I.search O F (by simp) (fun j hj _ => ro j (fun e => by rw [e] at hj; exact absurd hj (by decide))) Z2 (Or.inl ⟨rfl, ro 40 (by omega), e108⟩)).rt)
    · rw [e94] at eg' pl1 pg
      have := (bRun_stop (nx := nxA (rd h 94) (tS (rd h 94)) (zC (rd h 94)) r hr) (lo := 5 * r) (cnt := 5) (goal := goal) 128 0 (bGo (plc (tS (rd h 94)) r))).2 ns
      have e : runM (rd h 94) r hr = runC (rd h 94) r hr goal := this
      rw [e] at pl1 pg
      exact absurd ⟨pl, pl0, pl1, pg.trans (eg'.trans eg.symm)⟩ ns
  · obtain ⟨M1, Z1', e94⟩ := pre O
    have ex : bExt (runC (rd h 94) r hr goal) (runM (rd h 94) r hr) := (bRun_stop (nx := nxA (rd h 94) (tS (rd h 94)) (zC (rd h 94)) r hr) (lo := 5 * r) (cnt := 5) (goal := goal) 128 0 (bGo (plc (tS (rd h 94)) r))).1 ⟨pl, pl0, pl1, pg⟩
    have plM : pl < (runM (rd h 94) r hr).1 := by have := ex.1; omega
    have pgM : (runM (rd h 94) r hr).2.1 pl = goal := by rw [(ex.2 pl pl1).1]; exact pg
    refine ⟨M1.o0, mX_alone M1 Z1' (by rw [e94]; exact hG) ⟨p0, p0'⟩ ⟨p1, p1'⟩ ⟨p2, p2'⟩ ⟨p3, p3'⟩ ⟨p4, p4'⟩ (fun h2 nc => ?_) (fun h2 goal' c' eg' ns' => ?_) (fun h2 goal' pl' c' eg' I2 pl0' pl1' pg' F ro e40 Z2 yy => ?_)⟩
    · rw [e94] at nc; exact absurd c nc
    · rw [e94] at eg' ns'
      exact absurd ⟨pl, pl0, plM, pgM.trans (eg.trans eg'.symm)⟩ ns'
    · rw [e94] at eg' I2 pl1' pg' e40 yy ⊢
      have epl : pl' = pl := I2.2.2.1 pl' pl pl0' pl1' pl0 plM (pg'.trans (eg'.trans (eg.symm.trans pgM.symm)))
      subst epl
      have fgM := I2.fg
      have fgC : FGd (runC (rd h 94) r hr goal).2.2.1 (runC (rd h 94) r hr goal).1 := fun j j0 j1 => by
        rw [← (ex.2 j j1).2.1]; exact fgM j j0 (by have := ex.1; omega)
      have ed : dpt (runM (rd h 94) r hr).2.2.1 pl' = dpt (runC (rd h 94) r hr goal).2.2.1 pl' := dpt_cg fgC (fun j hj => (ex.2 j hj).2.1) pl'.toNat pl' (by omega) pl1
      have ea : ∀ k : Nat, (k : Int) < dpt (runC (rd h 94) r hr goal).2.2.1 pl' → (runM (rd h 94) r hr).2.2.2 (anc (runM (rd h 94) r hr).2.2.1 k pl') = (runC (rd h 94) r hr goal).2.2.2 (anc (runC (rd h 94) r hr goal).2.2.1 k pl') := fun k hk => by
        rw [anc_cg fgC (fun j hj => (ex.2 j hj).2.1) k pl' pl0 pl1 (by omega)]
        exact (ex.2 _ (anc_d fgC k pl' pl0 pl1 (by omega)).1.2).2.2
      rw [ed] at e40 yy ⊢
      refine Ag.same (hK _ (I.search O F (by simp) (fun j hj h4 => ro j (fun e => by rw [e] at hj; exact absurd hj (by decide)) h4) Z2 (Or.inr ⟨(dpt_bd fgC pl'.toNat pl' (by omega) pl0 pl1).1, e40, fun k hk => ?_⟩)).rt)
      rw [yy k hk, ea k hk]
end XAL
