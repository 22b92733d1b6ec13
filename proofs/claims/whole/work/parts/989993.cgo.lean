/-! the class goes on from a TOWN -/
/-- a set of numbers that means what goes with the others -/
def RmS (s t z : Int → Int) (r : Int) (zr : Int64) : Prop := ∀ T, LYS s T z → (∀ o, 0 ≤ o → o < 3 → o ≠ r → nmr s T o = nmr s t o) → (zb zr (nmr s T r) ↔ ¬ onAnT s T z r ∧ ¬ farT s T z r)
def DS (h0 h : AH) (qa0 qa la : Nat) (s t0 z : Int → Int) (hr gl : Int) (S : BS) : Prop := (CQ h0 h qa0 qa S.1 gl (fun j => csB s t0 (S.2.1 j)) S.2.2.1 S.2.2.2) ∧ (∀ u, okS u → (snB h u ↔ ∃ j, 0 ≤ j ∧ j < S.1 ∧ csB s t0 (S.2.1 j) = u)) ∧ (LB h la) ∧ (LR h la s) ∧ (la = 5 ∨ la = 32) ∧ (aP h 80 0 = some la) ∧ (BL3 h s) ∧ (TG3 h s) ∧ (LK h s z hr)
theorem DS.C {h0 h : AH} {qa0 qa la : Nat} {s t0 z : Int → Int} {hr gl : Int} {S : BS} (R : DS h0 h qa0 qa la s t0 z hr gl S) : CQ h0 h qa0 qa S.1 gl (fun j => csB s t0 (S.2.1 j)) S.2.2.1 S.2.2.2 := R.1
theorem DS.sn {h0 h : AH} {qa0 qa la : Nat} {s t0 z : Int → Int} {hr gl : Int} {S : BS} (R : DS h0 h qa0 qa la s t0 z hr gl S) : ∀ u, okS u → (snB h u ↔ ∃ j, 0 ≤ j ∧ j < S.1 ∧ csB s t0 (S.2.1 j) = u) := R.2.1
theorem DS.H {h0 h : AH} {qa0 qa la : Nat} {s t0 z : Int → Int} {hr gl : Int} {S : BS} (R : DS h0 h qa0 qa la s t0 z hr gl S) : LB h la := R.2.2.1
theorem DS.L {h0 h : AH} {qa0 qa la : Nat} {s t0 z : Int → Int} {hr gl : Int} {S : BS} (R : DS h0 h qa0 qa la s t0 z hr gl S) : LR h la s := R.2.2.2.1
theorem DS.hl {h0 h : AH} {qa0 qa la : Nat} {s t0 z : Int → Int} {hr gl : Int} {S : BS} (R : DS h0 h qa0 qa la s t0 z hr gl S) : la = 5 ∨ la = 32 := R.2.2.2.2.1
theorem DS.pz {h0 h : AH} {qa0 qa la : Nat} {s t0 z : Int → Int} {hr gl : Int} {S : BS} (R : DS h0 h qa0 qa la s t0 z hr gl S) : aP h 80 0 = some la := R.2.2.2.2.2.1
theorem DS.L3 {h0 h : AH} {qa0 qa la : Nat} {s t0 z : Int → Int} {hr gl : Int} {S : BS} (R : DS h0 h qa0 qa la s t0 z hr gl S) : BL3 h s := R.2.2.2.2.2.2.1
theorem DS.TT {h0 h : AH} {qa0 qa la : Nat} {s t0 z : Int → Int} {hr gl : Int} {S : BS} (R : DS h0 h qa0 qa la s t0 z hr gl S) : TG3 h s := R.2.2.2.2.2.2.2.1
theorem DS.K {h0 h : AH} {qa0 qa la : Nat} {s t0 z : Int → Int} {hr gl : Int} {S : BS} (R : DS h0 h qa0 qa la s t0 z hr gl S) : LK h s z hr := R.2.2.2.2.2.2.2.2
section CGO
variable {h h1 h2 h' h0 g0 g : AH} {qa0 qa ac la tw : Nat} {postV : AH → Prop} {post : AH → Int32 → Prop} {a b c d f i j k v w x y pl r hr how gl st u p o t' : Int} {s t t0 z T : Int → Int} {S : BS} {zr : Int64}
theorem st_shl' (h1 : 0 ≤ a) (h2 : a < 4096) (h3 : 0 ≤ b) (h4 : b < 64) : (iI a <<< iI 6) ||| iI b = iI (64 * a + b) := st_shl h1 h2 h3 h4
theorem TG3.cg (TT : TG3 h s) (e2 : rd h' 82 = rd h 82) (e3 : aJ h' 83 = aJ h 83) (e6 : aJ h' 86 = aJ h 86) : TG3 h' s := by
  unfold TG3 tgD okN gspN at TT ⊢
  rw [e2, e3, e6]
  exact TT
theorem LK.cg (K : LK h s z hr) (e : rd h' 85 = rd h 85) : LK h' s z hr := by
  unfold LK at K ⊢
  rw [e]
  exact K
theorem LYS.vt (V : VT s t z) : LYS s t z := fun r h1 h2 => ⟨(V r h1 h2).1, (V r h1 h2).2.1⟩
theorem LYS.cand (gs : GS s) (e : EZ z s) (W : LYS s t z) (h1 : 0 ≤ r) (h2 : r < s 2) (i : insT s (candT s t z r how) z r) : LYS s (candT s t z r how) z := fun o o0 o1 => by
  by_cases c : o = r
  · rw [c]; exact ⟨cand_spot (W r h1 h2).1 i (Z1s gs e r h1 h2) gs.1.2.1 gs.1.2.2.1, i⟩
  · have cc := cand_c (s := s) (t := t) (z := z) (how := how) c
    exact ⟨cc.1.mpr (W o o0 o1).1, cc.2.2.2.2.1.mpr (W o o0 o1).2⟩
theorem nmr_cand (ne : o ≠ r) : nmr s (candT s t z r how) o = nmr s t o := by
  unfold nmr
  rw [(cand_c (s := s) (t := t) (z := z) (how := how) ne).2.1]
theorem nmr_c (gs : GS s) (fw : few s) (e : EZ z s) (W : LYS s T z) (h1 : 0 ≤ r) (h3 : r < 3) : 0 ≤ nmr s T r ∧ nmr s T r < 40 := by
  have a := nmr_W gs fw e W h1 h3
  have b := cntB_b gs fw h1 h3
  omega
theorem csW_nIn (gs : GS s) (fw : few s) (e : EZ z s) (W : LYS s T z) (h1 : 0 ≤ r) (h2 : r < 3) : nIn (csT s T) r = nmr s T r := by
  have a := nmr_c (r := 0) gs fw e W (by omega) (by omega)
  have b := nmr_c (r := 1) gs fw e W (by omega) (by omega)
  have c := nmr_c (r := 2) gs fw e W (by omega) (by omega)
  have d : r = 0 ∨ r = 1 ∨ r = 2 := by omega
  unfold nIn csT
  rcases d with rfl | rfl | rfl
  · rw [if_pos rfl]; omega
  · rw [if_neg (by omega), if_pos rfl]; omega
  · rw [if_neg (by omega), if_neg (by omega)]; omega
theorem wN_cs (gs : GS s) (fw : few s) (e : EZ z s) (W : LYS s t z) (W' : LYS s T z) (h1 : 0 ≤ r) (h2 : r < 3) (ee : ∀ o, 0 ≤ o → o < 3 → o ≠ r → nmr s T o = nmr s t o) : wN (csT s t) r (nmr s T r) = csT s T := by
  have a := nmr_c (r := 0) gs fw e W (by omega) (by omega)
  have b := nmr_c (r := 1) gs fw e W (by omega) (by omega)
  have c := nmr_c (r := 2) gs fw e W (by omega) (by omega)
  have d : r = 0 ∨ r = 1 ∨ r = 2 := by omega
  unfold wN csT
  rcases d with rfl | rfl | rfl
  · have q1 := ee 1 (by omega) (by omega) (by omega)
    have q2 := ee 2 (by omega) (by omega) (by omega)
    rw [if_pos rfl]; omega
  · have q1 := ee 0 (by omega) (by omega) (by omega)
    have q2 := ee 2 (by omega) (by omega) (by omega)
    rw [if_neg (by omega), if_pos rfl]; omega
  · have q1 := ee 0 (by omega) (by omega) (by omega)
    have q2 := ee 1 (by omega) (by omega) (by omega)
    rw [if_neg (by omega), if_neg (by omega)]; omega
theorem c_stateOf (S : CSh h) (H : LB h la) (L : LR h la s) (pz : aP h 80 0 = some la) (gs : GS s) (fw : few s) (e : EZ z s) (L3 : BL3 h s) (R : TR h tw la s t z) (V : VT s t z) (K : post h (iI (csT s t))) : wp_X0_stateOf h 80 tw post := by
  have f3 := fw.1
  have b2 := gs.1.1 2 (by omega) (by omega)
  have c5 := L.c5
  obtain ⟨B, hp, hsp, hcv⟩ := R
  have W := LYS.vt V
  have step : ∀ {K4 : AH → Nat → Nat → Int32 → Int32 → Prop} (a r : Int), 0 ≤ a → a < 4096 → 0 ≤ r → r < 3 → K4 h 80 tw (iI (64 * a + nmr s t r)) (iI (r + 1)) → wb_X0_stateOf_4 K4 h 80 tw (iI a) (iI r) post := by
    intro K4 a r a0 a1 r0 r1 k
    have nb := nmr_c gs fw e W r0 r1
    unfold wb_X0_stateOf_4 wb_X0_stateOf_41
    by_cases c : r < s 2
    · obtain ⟨⟨d0, d1⟩, dd⟩ := hd_of e r0 (by omega) (V r r0 c).1 (V r r0 c).2.1
      have lb := ltB_b (s := s) (r := r)
      have e1 := hsp r r0 c
      have e2 := ((L3 r r0 r1).1 c).nn _ d0 d1 dd
      have e3 : nmr s t r = nmB s r (enc t r) := by unfold nmr; rw [ite_t c]
      rw [← e3, show 128 * r + enc t r = r * 128 + enc t r by omega] at e2
      simp (disch := omega) only [CSh.o0 S, CSh.o1 S, CSh.o2 S, CSh.o3 S, CSh.o26 S, CSh.o27 S, CSh.o29 S, CSh.o30 S, CSh.o31 S, CSh.o56 S, CSh.o57 S, CSh.o58 S, CSh.o62 S, CSh.o66 S, CSh.o70 S, CSh.o74 S, CSh.o75 S, CSh.o77 S, CSh.o79 S, CSh.o80 S, CSh.o81 S, CSh.o82 S, CSh.o83 S, CSh.o84 S, CSh.o85 S, CSh.o86 S, CSh.o87 S, CSh.o88 S, CSh.o53 S, CSh.o54 S, CSh.o55 S, CSh.o59 S, CSh.o60 S, CSh.o61 S, CSh.o63 S, CSh.o64 S, CSh.o65 S, CSh.o67 S, CSh.o68 S, CSh.o69 S, CSh.o71 S, CSh.o72 S, CSh.o73 S, CSh.o89 S, CSh.o90 S, CSh.o91 S, CSh.l1 S, CSh.l3 S, CSh.l27 S, CSh.l29 S, CSh.l30 S, CSh.l56 S, CSh.l57 S, CSh.l58 S, CSh.l75 S, CSh.l77 S, CSh.l79 S, CSh.l81 S, CSh.l82 S, CSh.l83 S, CSh.l84 S, CSh.l85 S, CSh.l86 S, CSh.l87 S, CSh.l88 S, CSh.l54 S, CSh.l55 S, CSh.l60 S, CSh.l61 S, CSh.l64 S, CSh.l65 S, CSh.l68 S, CSh.l69 S, CSh.l72 S, CSh.l73 S, CSh.l90 S, CSh.l91 S, CSh.p0_0 S, CSh.p0_3 S, CSh.p0_4 S, CSh.p0_5 S, CSh.p0_6 S, CSh.p0_7 S, CSh.p0_8 S, CSh.p0_9 S, CSh.p0_10 S, CSh.p0_14 S, CSh.p2_0 S, CSh.p26_0 S, CSh.p26_13 S, CSh.p26_14 S, CSh.p31_1 S, CSh.p31_3 S, CSh.p31_4 S, CSh.p62_0 S, CSh.p66_0 S, CSh.p70_0 S, CSh.p74_0 S, CSh.p74_1 S, CSh.p74_6 S, CSh.p74_7 S, CSh.p74_10 S, CSh.p80_1 S, CSh.p80_2 S, CSh.p80_3 S, CSh.p80_4 S, CSh.p80_5 S, CSh.p80_6 S, CSh.p80_7 S, CSh.p80_8 S, CSh.p53_1 S, CSh.p53_2 S, CSh.p59_1 S, CSh.p59_2 S, CSh.p63_1 S, CSh.p63_2 S, CSh.p67_1 S, CSh.p67_2 S, CSh.p71_1 S, CSh.p71_2 S, CSh.p89_1 S, CSh.p89_2 S, LB.o0 H, LB.p2 H, LB.o1 H, LB.l1 H, LB.p3 H, LB.o2 H, LB.l2 H, LB.p4 H, LB.o3 H, LB.l3 H, LB.p6 H, LB.o4 H, LB.l4 H, LB.p7 H, LB.o5 H, LB.l5 H, LB.p8 H, LB.o6 H, LB.l6 H, LB.p9 H, LB.o7 H, LB.l7 H, LB.p10 H, LB.o8 H, LB.l8 H, LB.p12 H, LB.o9 H, LB.l9 H, LB.p14 H, LB.o10 H, LB.p15 H, LB.o16 H, LB.q10_1 H, LB.o11 H, LB.l11 H, LB.q10_2 H, LB.o12 H, LB.l12 H, LB.q10_3 H, LB.o13 H, LB.l13 H, LB.q10_4 H, LB.o14 H, LB.l14 H, LB.q10_5 H, LB.o15 H, LB.l15 H, LB.q16_1 H, LB.o17 H, LB.l17 H, LB.q16_2 H, LB.o18 H, LB.l18 H, LB.q16_3 H, LB.o19 H, LB.l19 H, LB.q16_4 H, LB.o20 H, LB.l20 H, TB.o0 B, TB.p1 B, TB.o1 B, TB.l1 B, TB.p2 B, TB.o2 B, TB.l2 B, pz, fd0, fd1, fd2, fd3, fd4, fd5, fd6, fd7, fd8, fd9, fd10, fd11, fd12, fd13, fd14, fd15, fd16, fd17, fd18, fd19, fd20, fd21, fd22, fd23, fd24, fd25, fd26, fd27, fd28, fd29, fd30, fd31, fd32, fd33, fd34, fd35, fd36, fd37, fd38, fd39, fd40, fd41, fd42, fd43, fd44, fd45, fd46, fd47, fd48, fd49, fd50, fd51, fd52, c5, e1, e2, st_shl', -Int.reduceToNat, -Int32.reduceToNatClampNeg, il0, il1, il2, il3, il4, il5, il6, il7, il8, il9, il10, il11, il12, il13, il14, il15, il16, il17, il18, il19, il20, il21, il22, il23, il24, il25, il26, il27, il28, il29, il30, il31, il32, il35, il36, il38, il40, il42, il43, il44, il45, il46, il47, il48, il49, il50, il51, il52, il57, il59, il60, il63, il64, il75, il80, il95, il96, il97, il98, il99, il100, il120, il122, il123, il127, il128, il135, il167, il175, il225, il249, il250, il255, il256, il360, il370, il384, il600, il700, il740, il900, il940, il1024, il1600, il4800, il64000, il125000, il262143, il1000000000, iI_toInt, iI_add, iI_sub, iI_mul, iI_neg, iI_lt, iI_le, iI_eq, iI_n, iI_in, iI_div, iI_mod, iI_shm, iI_and1, iI_and7, iI_and63, iI_shr3, iI_shr6, rd_I, ob, Option.some.injEq, exists_eq_left', exists_eq_left, true_and, and_true, fqI, fqJ, eq_self, true_or, or_true, bP_0, bP_0i, npP, bP_1i, bP_b, not_true_eq_false, not_false_eq_true, false_implies, true_implies, implies_true, Classical.not_not, and_self]
      exact ⟨fun u => by omega, fun _ => ⟨fun u => by omega, fun _ => k⟩⟩
    · have e3 : nmr s t r = 0 := by unfold nmr; rw [ite_f c]
      rw [e3] at k
      simp (disch := omega) only [CSh.o0 S, CSh.o1 S, CSh.o2 S, CSh.o3 S, CSh.o26 S, CSh.o27 S, CSh.o29 S, CSh.o30 S, CSh.o31 S, CSh.o56 S, CSh.o57 S, CSh.o58 S, CSh.o62 S, CSh.o66 S, CSh.o70 S, CSh.o74 S, CSh.o75 S, CSh.o77 S, CSh.o79 S, CSh.o80 S, CSh.o81 S, CSh.o82 S, CSh.o83 S, CSh.o84 S, CSh.o85 S, CSh.o86 S, CSh.o87 S, CSh.o88 S, CSh.o53 S, CSh.o54 S, CSh.o55 S, CSh.o59 S, CSh.o60 S, CSh.o61 S, CSh.o63 S, CSh.o64 S, CSh.o65 S, CSh.o67 S, CSh.o68 S, CSh.o69 S, CSh.o71 S, CSh.o72 S, CSh.o73 S, CSh.o89 S, CSh.o90 S, CSh.o91 S, CSh.l1 S, CSh.l3 S, CSh.l27 S, CSh.l29 S, CSh.l30 S, CSh.l56 S, CSh.l57 S, CSh.l58 S, CSh.l75 S, CSh.l77 S, CSh.l79 S, CSh.l81 S, CSh.l82 S, CSh.l83 S, CSh.l84 S, CSh.l85 S, CSh.l86 S, CSh.l87 S, CSh.l88 S, CSh.l54 S, CSh.l55 S, CSh.l60 S, CSh.l61 S, CSh.l64 S, CSh.l65 S, CSh.l68 S, CSh.l69 S, CSh.l72 S, CSh.l73 S, CSh.l90 S, CSh.l91 S, CSh.p0_0 S, CSh.p0_3 S, CSh.p0_4 S, CSh.p0_5 S, CSh.p0_6 S, CSh.p0_7 S, CSh.p0_8 S, CSh.p0_9 S, CSh.p0_10 S, CSh.p0_14 S, CSh.p2_0 S, CSh.p26_0 S, CSh.p26_13 S, CSh.p26_14 S, CSh.p31_1 S, CSh.p31_3 S, CSh.p31_4 S, CSh.p62_0 S, CSh.p66_0 S, CSh.p70_0 S, CSh.p74_0 S, CSh.p74_1 S, CSh.p74_6 S, CSh.p74_7 S, CSh.p74_10 S, CSh.p80_1 S, CSh.p80_2 S, CSh.p80_3 S, CSh.p80_4 S, CSh.p80_5 S, CSh.p80_6 S, CSh.p80_7 S, CSh.p80_8 S, CSh.p53_1 S, CSh.p53_2 S, CSh.p59_1 S, CSh.p59_2 S, CSh.p63_1 S, CSh.p63_2 S, CSh.p67_1 S, CSh.p67_2 S, CSh.p71_1 S, CSh.p71_2 S, CSh.p89_1 S, CSh.p89_2 S, LB.o0 H, LB.p2 H, LB.o1 H, LB.l1 H, LB.p3 H, LB.o2 H, LB.l2 H, LB.p4 H, LB.o3 H, LB.l3 H, LB.p6 H, LB.o4 H, LB.l4 H, LB.p7 H, LB.o5 H, LB.l5 H, LB.p8 H, LB.o6 H, LB.l6 H, LB.p9 H, LB.o7 H, LB.l7 H, LB.p10 H, LB.o8 H, LB.l8 H, LB.p12 H, LB.o9 H, LB.l9 H, LB.p14 H, LB.o10 H, LB.p15 H, LB.o16 H, LB.q10_1 H, LB.o11 H, LB.l11 H, LB.q10_2 H, LB.o12 H, LB.l12 H, LB.q10_3 H, LB.o13 H, LB.l13 H, LB.q10_4 H, LB.o14 H, LB.l14 H, LB.q10_5 H, LB.o15 H, LB.l15 H, LB.q16_1 H, LB.o17 H, LB.l17 H, LB.q16_2 H, LB.o18 H, LB.l18 H, LB.q16_3 H, LB.o19 H, LB.l19 H, LB.q16_4 H, LB.o20 H, LB.l20 H, TB.o0 B, TB.p1 B, TB.o1 B, TB.l1 B, TB.p2 B, TB.o2 B, TB.l2 B, pz, fd0, fd1, fd2, fd3, fd4, fd5, fd6, fd7, fd8, fd9, fd10, fd11, fd12, fd13, fd14, fd15, fd16, fd17, fd18, fd19, fd20, fd21, fd22, fd23, fd24, fd25, fd26, fd27, fd28, fd29, fd30, fd31, fd32, fd33, fd34, fd35, fd36, fd37, fd38, fd39, fd40, fd41, fd42, fd43, fd44, fd45, fd46, fd47, fd48, fd49, fd50, fd51, fd52, c5, st_shl', -Int.reduceToNat, -Int32.reduceToNatClampNeg, il0, il1, il2, il3, il4, il5, il6, il7, il8, il9, il10, il11, il12, il13, il14, il15, il16, il17, il18, il19, il20, il21, il22, il23, il24, il25, il26, il27, il28, il29, il30, il31, il32, il35, il36, il38, il40, il42, il43, il44, il45, il46, il47, il48, il49, il50, il51, il52, il57, il59, il60, il63, il64, il75, il80, il95, il96, il97, il98, il99, il100, il120, il122, il123, il127, il128, il135, il167, il175, il225, il249, il250, il255, il256, il360, il370, il384, il600, il700, il740, il900, il940, il1024, il1600, il4800, il64000, il125000, il262143, il1000000000, iI_toInt, iI_add, iI_sub, iI_mul, iI_neg, iI_lt, iI_le, iI_eq, iI_n, iI_in, iI_div, iI_mod, iI_shm, iI_and1, iI_and7, iI_and63, iI_shr3, iI_shr6, rd_I, ob, Option.some.injEq, exists_eq_left', exists_eq_left, true_and, and_true, fqI, fqJ, eq_self, true_or, or_true, bP_0, bP_0i, npP, bP_1i, bP_b, not_true_eq_false, not_false_eq_true, false_implies, true_implies, implies_true, Classical.not_not, and_self]
      exact ⟨fun u => by omega, fun _ => ⟨fun _ => k, fun u => by omega⟩⟩
  have n0 := nmr_c (r := 0) gs fw e W (by omega) (by omega)
  have n1 := nmr_c (r := 0 + 1) gs fw e W (by omega) (by omega)
  unfold wp_X0_stateOf
  refine ⟨4, ?_⟩
  show wb_X0_stateOf_4 (wl_X0_stateOf_4 post 3) h 80 tw (iI 0) (iI 0) post
  refine step 0 0 (by omega) (by omega) (by omega) (by omega) ?_
  show wb_X0_stateOf_4 (wl_X0_stateOf_4 post 2) h 80 tw (iI (64 * 0 + nmr s t 0)) (iI (0 + 1)) post
  refine step _ (0 + 1) (by omega) (by omega) (by omega) (by omega) ?_
  show wb_X0_stateOf_4 (wl_X0_stateOf_4 post 1) h 80 tw (iI (64 * (64 * 0 + nmr s t 0) + nmr s t (0 + 1))) (iI (0 + 1 + 1)) post
  refine step _ (0 + 1 + 1) (by omega) (by omega) (by omega) (by omega) ?_
  show wb_X0_stateOf_4 (wl_X0_stateOf_4 post 0) h 80 tw (iI (64 * (64 * (64 * 0 + nmr s t 0) + nmr s t (0 + 1)) + nmr s t (0 + 1 + 1))) (iI (0 + 1 + 1 + 1)) post
  refine ⟨fun _ => ?_, fun u => absurd (by decide) u⟩
  have ec : 64 * (64 * (64 * 0 + nmr s t 0) + nmr s t (0 + 1)) + nmr s t (0 + 1 + 1) = csT s t := by
    rw [show (0 + 1 + 1 : Int) = 2 from rfl, show (0 + 1 : Int) = 1 from rfl]
    unfold csT; omega
  rw [ec]
  exact K
theorem csb_upd {Q : Int → Int} : (fun j => csB s t0 (updT Q t' v j)) = updT (fun j => csB s t0 (Q j)) t' (csB s t0 v) := by
  funext j
  by_cases c : j = t'
  · rw [c, updT_s, updT_s]
  · rw [updT_n c, updT_n c]
theorem DS.act (A : DS h0 h qa0 qa la s t0 z hr gl S) (I : BI (VB s t0 z) 0 (5 * s 2) S) (rm : aN h0 ≤ 400000 ∧ aS h0 ≤ 4000000) (hi : 0 ≤ i ∧ i < S.1) (gs : GS s) (fw : few s) (e : EZ z s) (r0 : 0 ≤ r) (r1 : r < s 2) (ho : 0 ≤ how ∧ how < 5) (Rz : RmS s (tuB s t0 (S.2.1 i)) z r zr) {K9 : AH → Nat → Int32 → Int32 → Int32 → Int32 → Prop} {K53 : AH → Nat → Int32 → Int32 → Int32 → Int32 → Int32 → Int64 → Int32 → Prop}
    (K : ∀ h' qa', DS h0 h' qa0 qa' la s t0 z hr gl (bAct (nxB s t0 z hr) i (5 * r + how) S) → K53 h' 74 (iI i) (iI (s 2)) (iI (csB s t0 (S.2.1 i))) (iI r) (iI ((40 * r + nmr s (tuB s t0 (S.2.1 i)) r) * 5)) zr (iI (how + 1))) :
    wb_X6_goOnFrom_53 K9 K53 h 74 (iI i) (iI (s 2)) (iI (csB s t0 (S.2.1 i))) (iI r) (iI ((40 * r + nmr s (tuB s t0 (S.2.1 i)) r) * 5)) zr (iI how) postV := by
  have f3 := fw.1
  have vi := I.2.1 i hi.1 hi.2
  have V := vi.2
  have W := LYS.vt V
  have SS := A.C.S
  have t64 := I.le64 gs fw e
  have nb := nmr_c gs fw e W r0 (by omega)
  have ert : nmr s (tuB s t0 (S.2.1 i)) r = nmB s r (enc (tuB s t0 (S.2.1 i)) r) := by unfold nmr; rw [ite_t r1]
  have e85 := A.K r how (tuB s t0 (S.2.1 i)) r0 r1 (W r r0 r1).1 (W r r0 r1).2 ho.1 (by omega)
  rw [← ert] at e85
  have ok := csT_ok gs fw e V
  have a5 : (5 * r + how) / 5 = r := by omega
  have a6 : (5 * r + how) % 5 = how := by omega
  have wi := why0_iff (s := s) (t := tuB s t0 (S.2.1 i)) (z := z) (r := r) (how := how) (hr := hr)
  have same : ¬ whyT s (tuB s t0 (S.2.1 i)) z r how hr = 0 → K53 h 74 (iI i) (iI (s 2)) (iI (csB s t0 (S.2.1 i))) (iI r) (iI ((40 * r + nmr s (tuB s t0 (S.2.1 i)) r) * 5)) zr (iI (how + 1)) := fun c => by
    refine K h qa ?_
    have nx : nxB s t0 z hr (S.2.1 i) (5 * r + how) = -1 := nxB_n (by rw [a5, a6]; exact c)
    have eS : bAct (nxB s t0 z hr) i (5 * r + how) S = S := by
      unfold bAct
      rw [nx, ite_f (fun u => by omega)]
    rw [eS]
    exact A
  generalize hst : csB s t0 (S.2.1 i) = st at *
  have est : csT s (tuB s t0 (S.2.1 i)) = st := hst
  rw [est] at ok
  unfold onwV at e85
  by_cases co : onwP s (tuB s t0 (S.2.1 i)) z r how hr
  case neg =>
    rw [ite_f co] at e85
    have sm := same fun u => co (wi.mp u).1
    unfold wb_X6_goOnFrom_53 wb_X6_goOnFrom_124
    simp (disch := omega) only [CSh.o0 SS, CSh.o1 SS, CSh.o2 SS, CSh.o3 SS, CSh.o26 SS, CSh.o27 SS, CSh.o29 SS, CSh.o30 SS, CSh.o31 SS, CSh.o56 SS, CSh.o57 SS, CSh.o58 SS, CSh.o62 SS, CSh.o66 SS, CSh.o70 SS, CSh.o74 SS, CSh.o75 SS, CSh.o77 SS, CSh.o79 SS, CSh.o80 SS, CSh.o81 SS, CSh.o82 SS, CSh.o83 SS, CSh.o84 SS, CSh.o85 SS, CSh.o86 SS, CSh.o87 SS, CSh.o88 SS, CSh.o53 SS, CSh.o54 SS, CSh.o55 SS, CSh.o59 SS, CSh.o60 SS, CSh.o61 SS, CSh.o63 SS, CSh.o64 SS, CSh.o65 SS, CSh.o67 SS, CSh.o68 SS, CSh.o69 SS, CSh.o71 SS, CSh.o72 SS, CSh.o73 SS, CSh.o89 SS, CSh.o90 SS, CSh.o91 SS, CSh.l1 SS, CSh.l3 SS, CSh.l27 SS, CSh.l29 SS, CSh.l30 SS, CSh.l56 SS, CSh.l57 SS, CSh.l58 SS, CSh.l75 SS, CSh.l77 SS, CSh.l79 SS, CSh.l81 SS, CSh.l82 SS, CSh.l83 SS, CSh.l84 SS, CSh.l85 SS, CSh.l86 SS, CSh.l87 SS, CSh.l88 SS, CSh.l54 SS, CSh.l55 SS, CSh.l60 SS, CSh.l61 SS, CSh.l64 SS, CSh.l65 SS, CSh.l68 SS, CSh.l69 SS, CSh.l72 SS, CSh.l73 SS, CSh.l90 SS, CSh.l91 SS, CSh.p0_0 SS, CSh.p0_3 SS, CSh.p0_4 SS, CSh.p0_5 SS, CSh.p0_6 SS, CSh.p0_7 SS, CSh.p0_8 SS, CSh.p0_9 SS, CSh.p0_10 SS, CSh.p0_14 SS, CSh.p2_0 SS, CSh.p26_0 SS, CSh.p26_13 SS, CSh.p26_14 SS, CSh.p31_1 SS, CSh.p31_3 SS, CSh.p31_4 SS, CSh.p62_0 SS, CSh.p66_0 SS, CSh.p70_0 SS, CSh.p74_0 SS, CSh.p74_1 SS, CSh.p74_6 SS, CSh.p74_7 SS, CSh.p74_10 SS, CSh.p80_1 SS, CSh.p80_2 SS, CSh.p80_3 SS, CSh.p80_4 SS, CSh.p80_5 SS, CSh.p80_6 SS, CSh.p80_7 SS, CSh.p80_8 SS, CSh.p53_1 SS, CSh.p53_2 SS, CSh.p59_1 SS, CSh.p59_2 SS, CSh.p63_1 SS, CSh.p63_2 SS, CSh.p67_1 SS, CSh.p67_2 SS, CSh.p71_1 SS, CSh.p71_2 SS, CSh.p89_1 SS, CSh.p89_2 SS, e85, -Int.reduceToNat, -Int32.reduceToNatClampNeg, il0, il1, il2, il3, il4, il5, il6, il7, il8, il9, il10, il11, il12, il13, il14, il15, il16, il17, il18, il19, il20, il21, il22, il23, il24, il25, il26, il27, il28, il29, il30, il31, il32, il35, il36, il38, il40, il42, il43, il44, il45, il46, il47, il48, il49, il50, il51, il52, il57, il59, il60, il63, il64, il75, il80, il95, il96, il97, il98, il99, il100, il120, il122, il123, il127, il128, il135, il167, il175, il225, il249, il250, il255, il256, il360, il370, il384, il600, il700, il740, il900, il940, il1024, il1600, il4800, il64000, il125000, il262143, il1000000000, iI_toInt, iI_add, iI_sub, iI_mul, iI_neg, iI_lt, iI_le, iI_eq, iI_n, iI_in, iI_div, iI_mod, iI_shm, iI_and1, iI_and7, iI_and63, iI_shr3, iI_shr6, rd_I, ob, Option.some.injEq, exists_eq_left', exists_eq_left, true_and, and_true, fqI, fqJ, eq_self, true_or, or_true, bP_0, bP_0i, npP, bP_1i, bP_b, not_true_eq_false, not_false_eq_true, false_implies, true_implies, implies_true, Classical.not_not, and_self]
    exact ⟨fun u => by omega, fun _ => ⟨fun _ => sm, fun u => by omega⟩⟩
  rw [ite_t co] at e85
  have Wc := W.cand gs e r0 r1 co.2.2.1
  have erc : nmr s (candT s (tuB s t0 (S.2.1 i)) z r how) r = nmB s r (enc (candT s (tuB s t0 (S.2.1 i)) z r how) r) := by unfold nmr; rw [ite_t r1]
  rw [← erc] at e85
  have nc := nmr_c gs fw e Wc r0 (show r < 3 by omega)
  have bit := Rz _ Wc fun o _ _ ne => nmr_cand ne
  have wn := wN_cs gs fw e W Wc r0 (show r < 3 by omega) fun o _ _ ne => nmr_cand ne
  rw [est] at wn
  have nxe := fun (c : whyT s (tuB s t0 (S.2.1 i)) z r how hr = 0) => nxB_V (t0 := t0) (v := S.2.1 i) (a := 5 * r + how) (hr := hr) gs fw e (by omega) (by omega) vi (by rw [a5, a6]; exact c)
  rw [a5, a6] at nxe
  generalize hp : nmr s (candT s (tuB s t0 (S.2.1 i)) z r how) r = p at *
  generalize hcc : candT s (tuB s t0 (S.2.1 i)) z r how = cc at *
  unfold wb_X6_goOnFrom_53 wb_X6_goOnFrom_124
  simp (disch := omega) only [CSh.o0 SS, CSh.o1 SS, CSh.o2 SS, CSh.o3 SS, CSh.o26 SS, CSh.o27 SS, CSh.o29 SS, CSh.o30 SS, CSh.o31 SS, CSh.o56 SS, CSh.o57 SS, CSh.o58 SS, CSh.o62 SS, CSh.o66 SS, CSh.o70 SS, CSh.o74 SS, CSh.o75 SS, CSh.o77 SS, CSh.o79 SS, CSh.o80 SS, CSh.o81 SS, CSh.o82 SS, CSh.o83 SS, CSh.o84 SS, CSh.o85 SS, CSh.o86 SS, CSh.o87 SS, CSh.o88 SS, CSh.o53 SS, CSh.o54 SS, CSh.o55 SS, CSh.o59 SS, CSh.o60 SS, CSh.o61 SS, CSh.o63 SS, CSh.o64 SS, CSh.o65 SS, CSh.o67 SS, CSh.o68 SS, CSh.o69 SS, CSh.o71 SS, CSh.o72 SS, CSh.o73 SS, CSh.o89 SS, CSh.o90 SS, CSh.o91 SS, CSh.l1 SS, CSh.l3 SS, CSh.l27 SS, CSh.l29 SS, CSh.l30 SS, CSh.l56 SS, CSh.l57 SS, CSh.l58 SS, CSh.l75 SS, CSh.l77 SS, CSh.l79 SS, CSh.l81 SS, CSh.l82 SS, CSh.l83 SS, CSh.l84 SS, CSh.l85 SS, CSh.l86 SS, CSh.l87 SS, CSh.l88 SS, CSh.l54 SS, CSh.l55 SS, CSh.l60 SS, CSh.l61 SS, CSh.l64 SS, CSh.l65 SS, CSh.l68 SS, CSh.l69 SS, CSh.l72 SS, CSh.l73 SS, CSh.l90 SS, CSh.l91 SS, CSh.p0_0 SS, CSh.p0_3 SS, CSh.p0_4 SS, CSh.p0_5 SS, CSh.p0_6 SS, CSh.p0_7 SS, CSh.p0_8 SS, CSh.p0_9 SS, CSh.p0_10 SS, CSh.p0_14 SS, CSh.p2_0 SS, CSh.p26_0 SS, CSh.p26_13 SS, CSh.p26_14 SS, CSh.p31_1 SS, CSh.p31_3 SS, CSh.p31_4 SS, CSh.p62_0 SS, CSh.p66_0 SS, CSh.p70_0 SS, CSh.p74_0 SS, CSh.p74_1 SS, CSh.p74_6 SS, CSh.p74_7 SS, CSh.p74_10 SS, CSh.p80_1 SS, CSh.p80_2 SS, CSh.p80_3 SS, CSh.p80_4 SS, CSh.p80_5 SS, CSh.p80_6 SS, CSh.p80_7 SS, CSh.p80_8 SS, CSh.p53_1 SS, CSh.p53_2 SS, CSh.p59_1 SS, CSh.p59_2 SS, CSh.p63_1 SS, CSh.p63_2 SS, CSh.p67_1 SS, CSh.p67_2 SS, CSh.p71_1 SS, CSh.p71_2 SS, CSh.p89_1 SS, CSh.p89_2 SS, e85, lgc, z_bit, -Int.reduceToNat, -Int32.reduceToNatClampNeg, il0, il1, il2, il3, il4, il5, il6, il7, il8, il9, il10, il11, il12, il13, il14, il15, il16, il17, il18, il19, il20, il21, il22, il23, il24, il25, il26, il27, il28, il29, il30, il31, il32, il35, il36, il38, il40, il42, il43, il44, il45, il46, il47, il48, il49, il50, il51, il52, il57, il59, il60, il63, il64, il75, il80, il95, il96, il97, il98, il99, il100, il120, il122, il123, il127, il128, il135, il167, il175, il225, il249, il250, il255, il256, il360, il370, il384, il600, il700, il740, il900, il940, il1024, il1600, il4800, il64000, il125000, il262143, il1000000000, iI_toInt, iI_add, iI_sub, iI_mul, iI_neg, iI_lt, iI_le, iI_eq, iI_n, iI_in, iI_div, iI_mod, iI_shm, iI_and1, iI_and7, iI_and63, iI_shr3, iI_shr6, rd_I, ob, Option.some.injEq, exists_eq_left', exists_eq_left, true_and, and_true, fqI, fqJ, eq_self, true_or, or_true, bP_0, bP_0i, npP, bP_1i, bP_b, not_true_eq_false, not_false_eq_true, false_implies, true_implies, implies_true, Classical.not_not, and_self]
  refine ⟨fun u => by omega, fun _ => ⟨fun u => by omega, fun _ => ⟨fun nz => same fun u => nz (bit.mpr (wi.mp u).2), fun yz => ?_⟩⟩⟩
  have c0 : whyT s (tuB s t0 (S.2.1 i)) z r how hr = 0 := wi.mpr ⟨co, bit.mp yz⟩
  obtain ⟨vn, tn, -⟩ := nxe c0
  generalize hw : nxB s t0 z hr (S.2.1 i) (5 * r + how) = w at vn tn
  have ecs : csB s t0 w = csT s cc := by unfold csB; rw [tn]
  have okw : okS (csB s t0 w) ∧ csB s t0 w < 163840 := csT_ok gs fw e vn.2
  have w0 := (rg_b vn.1).1
  refine (c_withNumber ok.1.1 (by omega) r0 (by omega) nc.1 (by omega)).mpr ?_
  rw [wn, ← ecs]
  refine ⟨SS.o74, c_isNew SS okw.1 (fun g1 ns f1 s1 => ⟨fun u => absurd u i10, fun _ => ?_⟩) (fun sn => ⟨fun _ => ?_, fun u => absurd rfl u⟩)⟩
  · have nsB : ¬ seenB S w := fun ⟨j, j0, j1, j2⟩ => ns ((A.sn _ okw.1).mpr ⟨j, j0, j1, by rw [j2]⟩)
    have eS : bAct (nxB s t0 z hr) i (5 * r + how) S = (S.1 + 1, updT S.2.1 S.1 w, updT S.2.2.1 S.1 i, updT S.2.2.2 S.1 (5 * r + how)) := by
      unfold bAct
      rw [hw, ite_t ⟨w0, nsB⟩]
    have h64 : S.1 < 64000 := by
      have B2 := bAct_I (nx := nxB s t0 z hr) (i := i) (a := 5 * r + how) I hi.1 hi.2 (by omega) (fun _ => by rw [hw]; exact vn)
      have := B2.le64 gs fw e
      rw [eS] at this
      have : S.1 + 1 ≤ 64000 := this
      omega
    have S1 := SS.gr f1.gr
    have C1 : CQ h0 g1 qa0 qa S.1 gl (fun j => csB s t0 (S.2.1 j)) S.2.2.1 S.2.2.2 := by
      obtain ⟨SS, G, m0, p2, oq, ql, qd, nw, rN, rS, tt, tb, tl, gl, gg, qq, xb, ro⟩ := A.C
      have q7 : qa ∉ [75] := by simp; omega
      exact ⟨S1, G.via f1.gr (fun a _ q => absurd q List.not_mem_nil) (fun a _ q => by rw [List.mem_singleton.mp q]; unfold sWj; simp) (fun a k _ q => absurd q List.not_mem_nil), m0, by rw [f1.aPe]; exact p2, f1.gr.ob oq, by rw [f1.2.2.2.1]; exact ql, qd, nw, by rw [f1.1, f1.2.2.2.1]; exact rN, by rw [f1.2.1, f1.2.2.2.1]; exact rS, by rw [f1.row (by simp)]; exact tt, tb, by rw [f1.2.2.2.1]; exact tl, by rw [f1.row (by simp)]; exact gl, by rw [f1.row (by simp)]; exact gg, fun j j0 j1 => by rw [f1.2.2.2.2.2.1 qa q7]; exact qq j j0 j1, xb, fun j hj => by rw [f1.row (by simp)]; exact ro j hj⟩
    rw [show r * 5 + how = 5 * r + how by omega]
    have okn := okw.1.1
    refine ⟨S1.o74, c_push C1 rm (by omega) (by omega) (by omega) (by omega) fun h' qa' C' G' r' => ?_⟩
    have qd := A.C.qd
    have q7 : (75 : Nat) ∉ [qa] := by simp; omega
    have q83 : (83 : Nat) ∉ [qa] := by simp; omega
    have q86 : (86 : Nat) ∉ [qa] := by simp; omega
    have hl := A.hl
    have qla : ∀ j, j ≤ 20 → la + j ∉ [qa] := fun j hj => by simp; omega
    have H1 := A.H.gr f1.gr (by omega)
    have r82 : rd h' 82 = rd h 82 := by rw [G'.row S1.o82.2 (by simp), f1.row (by simp)]
    have j83 : aJ h' 83 = aJ h 83 := by rw [G'.jow S1.o83.2 q83]; exact f1.2.2.2.2.2.1 83 (by simp)
    refine K h' qa' ?_
    rw [eS]
    refine ⟨by rw [csb_upd]; exact C', fun u hu => ?_, H1.gr G' (by omega), (A.L.grw A.H f1.gr (fun j _ => List.not_mem_nil) (fun j hj => by simp; omega)).grw H1 G' (fun j hj => by simp; omega) qla, hl, (G'.dyn S1.o80.2 (by decide)).trans (by rw [f1.aPe]; exact A.pz), A.L3.cg (by rw [G'.row S1.o81.2 (by simp), f1.row (by simp)]) r82 j83 (by rw [G'.row S1.o84.2 (by simp), f1.row (by simp)]), A.TT.cg r82 j83 (by rw [G'.jow S1.o86.2 q86]; exact f1.2.2.2.2.2.1 86 (by simp)), A.K.cg (by rw [G'.row S1.o85.2 (by simp), f1.row (by simp)])⟩
    unfold snB
    rw [G'.jow S1.o75.2 q7]
    have s1u := s1 u hu
    unfold snB at s1u
    rw [s1u]
    have sn := A.sn u hu
    unfold snB at sn
    rw [sn]
    refine ⟨fun q => ?_, fun ⟨j, j0, j1, j2⟩ => ?_⟩
    · rcases q with ⟨j, j0, j1, j2⟩ | q
      · refine ⟨j, j0, by show j < S.1 + 1; omega, ?_⟩
        show csB s t0 (updT S.2.1 S.1 w j) = u
        rw [updT_n (by omega)]; exact j2
      · refine ⟨S.1, by have := I.1; omega, by show S.1 < S.1 + 1; omega, ?_⟩
        show csB s t0 (updT S.2.1 S.1 w S.1) = u
        rw [updT_s, q]
    · have j1 : j < S.1 + 1 := j1
      have j2 : csB s t0 (updT S.2.1 S.1 w j) = u := j2
      by_cases cj : j = S.1
      · rw [cj, updT_s] at j2; exact Or.inr j2.symm
      · rw [updT_n cj] at j2; exact Or.inl ⟨j, j0, by omega, j2⟩
  · obtain ⟨j, j0, j1, j2⟩ := (A.sn _ okw.1).mp sn
    have sB : seenB S w := ⟨j, j0, j1, csB_inj gs fw e (I.2.1 j j0 j1) vn j2⟩
    have eS : bAct (nxB s t0 z hr) i (5 * r + how) S = S := by
      unfold bAct
      rw [hw, ite_f (fun u => u.2 sB)]
    exact K h qa (by rw [eS]; exact A)
end CGO
