/-! plan() in both -/
section XPL
variable {h h1 h2 h' h0 g : AH} {i la fr qa ac la' fr' : Nat} {K : AH → Prop} {postV : AH → Prop} {post : AH → Int32 → Prop} {a b c d r x y n m p q e k j v w lo hi td sp rc : Int} {T s A : Int → Int} {l l' : List Int} {N : Int → List Int} {R : RT}
theorem NR.names {nm : Nat → Int64} (R : NR h la s nm) : ∃ N : Int → List Int, NmL h la (s 2) N ∧ ∀ r, 0 ≤ r → r < s 2 → nm (0 + r).toNat = Int64.ofInt (w8 (N r)) ∧ Ltr (N r) ∧ (N r).length ≤ 6 := by
  have H : ∀ r : Int, ∃ l : List Int, 0 ≤ r → r < s 2 → (l.length ≤ 6 ∧ Ltr l ∧ rd h (la + 4) r = w5 l ∧ nm r.toNat = Int64.ofInt (w8 l)) := fun r => by
    by_cases c : 0 ≤ r ∧ r < s 2
    · obtain ⟨l, a⟩ := R r c.1 c.2
      exact ⟨l, fun _ _ => a⟩
    · exact ⟨[], fun a b => absurd ⟨a, b⟩ c⟩
  obtain ⟨N, hN⟩ := Classical.axiomOfChoice H
  exact ⟨N, fun r r0 r1 => ⟨(hN r r0 r1).2.2.1, (hN r r0 r1).2.1, (hN r r0 r1).1⟩, fun r r0 r1 => ⟨by rw [show (0 + r : Int) = r by omega]; exact (hN r r0 r1).2.2.2, (hN r r0 r1).2.1, (hN r r0 r1).1⟩⟩
theorem cX_plan (I : Inv h i la fr qa ac) (hT : rd h 93 = T) (hn : rd h 92 2 = n) (NM : NmL h la (rd h 94 2) N)
    (KF : ∀ h' (R : RT), R = psS T n 700 N (rd h 94 2) 62 (fun _ => 0) 0 0 → R.1 ≠ 0 → Gr [0, 26, 29, 30] [] [(26, 1)] h h' → aN h' = aN h ∧ aS h' = aS h → c0F h h' → rd h' 0 2 = R.1 → post h' (iI (-1 - R.2.1)))
    (KS : ∀ h' (R : RT), R = psS T n 700 N (rd h 94 2) 62 (fun _ => 0) 0 0 → R.1 = 0 → AOk R.2.2.1 R.2.2.2.2.1 (rd h 94 2) → Gr [0, 26, 29, 30, 31, 56, 57] [] [(26, 1)] h h' → aN h' = aN h ∧ aS h' = aS h → c0F h h' → rd h' 0 2 = 0 → rd h' 31 2 = R.2.2.2.2.1 → (∀ i, 0 ≤ i → i < R.2.2.2.2.1 → rd h' 56 i = R.2.2.1 (2 * i) ∧ rd h' 57 i = R.2.2.1 (2 * i + 1)) → post h' (iI R.2.2.2.2.1)) : wp_X11_plan h 0 post := by
  obtain ⟨S, M, hl, hp, H, L, TT, hG, hZ⟩ := I.core
  have bd := hG.bd
  have I0 := I
  obtain ⟨c1, c2, c3, c4, c5, c6, c7, c8, c9, c10, c11, c12, c13, c14, c15, c16, c17, c18⟩ := I
  obtain ⟨t1, t2, t3, t4⟩ := c11
  unfold wp_X11_plan
  simp (disch := omega) only [CSh.o0 S, CSh.o1 S, CSh.o2 S, CSh.o3 S, CSh.o26 S, CSh.o27 S, CSh.o29 S, CSh.o30 S, CSh.o31 S, CSh.o56 S, CSh.o57 S, CSh.o58 S, CSh.o62 S, CSh.o66 S, CSh.o70 S, CSh.o74 S, CSh.o75 S, CSh.o77 S, CSh.o79 S, CSh.o80 S, CSh.o81 S, CSh.o82 S, CSh.o83 S, CSh.o84 S, CSh.o85 S, CSh.o86 S, CSh.o87 S, CSh.o88 S, CSh.o53 S, CSh.o54 S, CSh.o55 S, CSh.o59 S, CSh.o60 S, CSh.o61 S, CSh.o63 S, CSh.o64 S, CSh.o65 S, CSh.o67 S, CSh.o68 S, CSh.o69 S, CSh.o71 S, CSh.o72 S, CSh.o73 S, CSh.o89 S, CSh.o90 S, CSh.o91 S, CSh.l1 S, CSh.l3 S, CSh.l27 S, CSh.l29 S, CSh.l30 S, CSh.l56 S, CSh.l57 S, CSh.l58 S, CSh.l75 S, CSh.l77 S, CSh.l79 S, CSh.l81 S, CSh.l82 S, CSh.l83 S, CSh.l84 S, CSh.l85 S, CSh.l86 S, CSh.l87 S, CSh.l88 S, CSh.l54 S, CSh.l55 S, CSh.l60 S, CSh.l61 S, CSh.l64 S, CSh.l65 S, CSh.l68 S, CSh.l69 S, CSh.l72 S, CSh.l73 S, CSh.l90 S, CSh.l91 S, CSh.p0_0 S, CSh.p0_3 S, CSh.p0_4 S, CSh.p0_5 S, CSh.p0_6 S, CSh.p0_7 S, CSh.p0_8 S, CSh.p0_9 S, CSh.p0_10 S, CSh.p0_14 S, CSh.p2_0 S, CSh.p26_0 S, CSh.p26_13 S, CSh.p26_14 S, CSh.p31_1 S, CSh.p31_3 S, CSh.p31_4 S, CSh.p62_0 S, CSh.p66_0 S, CSh.p70_0 S, CSh.p74_0 S, CSh.p74_1 S, CSh.p74_6 S, CSh.p74_7 S, CSh.p74_10 S, CSh.p80_1 S, CSh.p80_2 S, CSh.p80_3 S, CSh.p80_4 S, CSh.p80_5 S, CSh.p80_6 S, CSh.p80_7 S, CSh.p80_8 S, CSh.p53_1 S, CSh.p53_2 S, CSh.p59_1 S, CSh.p59_2 S, CSh.p63_1 S, CSh.p63_2 S, CSh.p67_1 S, CSh.p67_2 S, CSh.p71_1 S, CSh.p71_2 S, CSh.p89_1 S, CSh.p89_2 S, hp, -Int.reduceToNat, -Int32.reduceToNatClampNeg, il0, il1, il2, il3, il4, il5, il6, il7, il8, il9, il10, il11, il12, il13, il14, il15, il16, il17, il18, il19, il20, il21, il22, il23, il24, il25, il26, il27, il28, il29, il30, il31, il32, il35, il36, il38, il40, il42, il43, il44, il45, il46, il47, il48, il49, il50, il51, il52, il57, il59, il60, il63, il64, il75, il80, il95, il96, il97, il98, il99, il100, il120, il122, il123, il127, il128, il135, il167, il175, il225, il249, il250, il255, il256, il360, il370, il384, il600, il700, il740, il900, il940, il1024, il1600, il4800, il64000, il125000, il262143, il1000000000, ob, Option.some.injEq, exists_eq_left', exists_eq_left, true_and, and_true, fqI, fqJ, eq_self, true_or, or_true, bP_0, bP_0i, npP, bP_1i, bP_b, not_true_eq_false, not_false_eq_true, false_implies, true_implies, implies_true, Classical.not_not, and_self]
  refine c_takeTape S fun g1 F1 R1 => ?_
  rw [t1, hn]
  have S1 := S.gr F1.gr
  have X1 : TXs g1 T := ⟨S1.o1, S1.l1, by rw [F1.row (by simp), t3, hT], by rw [← hT]; exact t4⟩
  have B1 : TBl g1 26 27 := ⟨by rw [F1.aPe]; exact S.p26_0, F1.gr.ob S.o27, by rw [F1.2.2.2.1]; exact S.l27, fun i i0 i1 => by rw [F1.row (by simp)]; exact c17.2.1 i i0 i1⟩
  refine ⟨S1.o26, c_readActs S1 X1 B1 hl ⟨bd.2.2.1.1, bd.2.2.1.2⟩ (H.gr F1.gr (by omega)) (by rw [F1.row (by simp; omega)]; exact L.c5) (fun r r0 r1 => by rw [F1.row (by simp)]; exact NM r r0 r1) (by rw [← hn]; exact t2) fun g2 g3 v eg co => ?_⟩
  have G2 : Gr [] [] [(26, 1)] g1 g2 := by rw [eg]; exact gr_hP1 (k := 1) (by decide)
  obtain ⟨F3, co⟩ := co
  have N3 : aN g3 = aN h ∧ aS g3 = aS h := ⟨by rw [F3.1, eg]; exact F1.1, by rw [F3.2.1, eg]; exact F1.2.1⟩
  have dj : ∀ p, p ∈ [((26 : Nat), (1 : Nat))] → p ∈ DynP := by decide
  have G3 : Gr [0, 26, 29, 30] [] [(26, 1)] h g3 := (F1.gr.mono (by simp) (by simp) (by simp) dj).trans ((G2.mono (by simp) (by simp) (fun _ q => q) dj).trans (F3.gr.mono (by simp) (by simp) (by simp) dj))
  have S3 := S.gr G3
  have r0 : rd g3 0 = updT (rd h 0) 1 0 := by rw [F3.row (by simp), show rd g2 0 = rd g1 0 from by rw [eg]; rfl, R1]
  have b10 := rd_bd g3 26 10
  simp (disch := omega) only [CSh.o0 S3, CSh.o1 S3, CSh.o2 S3, CSh.o3 S3, CSh.o26 S3, CSh.o27 S3, CSh.o29 S3, CSh.o30 S3, CSh.o31 S3, CSh.o56 S3, CSh.o57 S3, CSh.o58 S3, CSh.o62 S3, CSh.o66 S3, CSh.o70 S3, CSh.o74 S3, CSh.o75 S3, CSh.o77 S3, CSh.o79 S3, CSh.o80 S3, CSh.o81 S3, CSh.o82 S3, CSh.o83 S3, CSh.o84 S3, CSh.o85 S3, CSh.o86 S3, CSh.o87 S3, CSh.o88 S3, CSh.o53 S3, CSh.o54 S3, CSh.o55 S3, CSh.o59 S3, CSh.o60 S3, CSh.o61 S3, CSh.o63 S3, CSh.o64 S3, CSh.o65 S3, CSh.o67 S3, CSh.o68 S3, CSh.o69 S3, CSh.o71 S3, CSh.o72 S3, CSh.o73 S3, CSh.o89 S3, CSh.o90 S3, CSh.o91 S3, CSh.l1 S3, CSh.l3 S3, CSh.l27 S3, CSh.l29 S3, CSh.l30 S3, CSh.l56 S3, CSh.l57 S3, CSh.l58 S3, CSh.l75 S3, CSh.l77 S3, CSh.l79 S3, CSh.l81 S3, CSh.l82 S3, CSh.l83 S3, CSh.l84 S3, CSh.l85 S3, CSh.l86 S3, CSh.l87 S3, CSh.l88 S3, CSh.l54 S3, CSh.l55 S3, CSh.l60 S3, CSh.l61 S3, CSh.l64 S3, CSh.l65 S3, CSh.l68 S3, CSh.l69 S3, CSh.l72 S3, CSh.l73 S3, CSh.l90 S3, CSh.l91 S3, CSh.p0_0 S3, CSh.p0_3 S3, CSh.p0_4 S3, CSh.p0_5 S3, CSh.p0_6 S3, CSh.p0_7 S3, CSh.p0_8 S3, CSh.p0_9 S3, CSh.p0_10 S3, CSh.p0_14 S3, CSh.p2_0 S3, CSh.p26_0 S3, CSh.p26_13 S3, CSh.p26_14 S3, CSh.p31_1 S3, CSh.p31_3 S3, CSh.p31_4 S3, CSh.p62_0 S3, CSh.p66_0 S3, CSh.p70_0 S3, CSh.p74_0 S3, CSh.p74_1 S3, CSh.p74_6 S3, CSh.p74_7 S3, CSh.p74_10 S3, CSh.p80_1 S3, CSh.p80_2 S3, CSh.p80_3 S3, CSh.p80_4 S3, CSh.p80_5 S3, CSh.p80_6 S3, CSh.p80_7 S3, CSh.p80_8 S3, CSh.p53_1 S3, CSh.p53_2 S3, CSh.p59_1 S3, CSh.p59_2 S3, CSh.p63_1 S3, CSh.p63_2 S3, CSh.p67_1 S3, CSh.p67_2 S3, CSh.p71_1 S3, CSh.p71_2 S3, CSh.p89_1 S3, CSh.p89_2 S3, fd0, fd1, fd2, fd3, fd4, fd5, fd6, fd7, fd8, fd9, fd10, fd11, fd12, fd13, fd14, fd15, fd16, fd17, fd18, fd19, fd20, fd21, fd22, fd23, fd24, fd25, fd26, fd27, fd28, fd29, fd30, fd31, fd32, fd33, fd34, fd35, fd36, fd37, fd38, fd39, fd40, fd41, fd42, fd43, fd44, fd45, fd46, fd47, fd48, fd49, fd50, fd51, fd52, -Int.reduceToNat, -Int32.reduceToNatClampNeg, il0, il1, il2, il3, il4, il5, il6, il7, il8, il9, il10, il11, il12, il13, il14, il15, il16, il17, il18, il19, il20, il21, il22, il23, il24, il25, il26, il27, il28, il29, il30, il31, il32, il35, il36, il38, il40, il42, il43, il44, il45, il46, il47, il48, il49, il50, il51, il52, il57, il59, il60, il63, il64, il75, il80, il95, il96, il97, il98, il99, il100, il120, il122, il123, il127, il128, il135, il167, il175, il225, il249, il250, il255, il256, il360, il370, il384, il600, il700, il740, il900, il940, il1024, il1600, il4800, il64000, il125000, il262143, il1000000000, iI_toInt, iI_add, iI_sub, iI_mul, iI_neg, iI_lt, iI_le, iI_eq, iI_n, iI_in, iI_div, iI_mod, iI_shm, iI_and1, iI_and7, iI_and63, iI_shr3, iI_shr6, rd_I, ob, Option.some.injEq, exists_eq_left', exists_eq_left, true_and, and_true, fqI, fqJ, eq_self, true_or, or_true, bP_0, bP_0i, npP, bP_1i, bP_b, not_true_eq_false, not_false_eq_true, false_implies, true_implies, implies_true, Classical.not_not, and_self]
  intro g4 w4
  obtain ⟨F4, R4⟩ := wI (i := 2) (by omega) b10.1 b10.2 w4
  have G4 : Gr [0, 26, 29, 30] [] [(26, 1)] h g4 := G3.trans (F4.gr.mono (by simp) (by simp) (by simp) dj)
  have S4 := S.gr G4
  have e02 : rd g4 0 2 = rd g3 26 10 := by rw [R4, updT_s]
  have e211 : rd g4 26 11 = rd g3 26 11 := by rw [F4.row (by simp)]
  have cF : c0F h g4 := ⟨fun j j1 j2 => by rw [R4, updT_n j2, r0, updT_n j1], by rw [R4, updT_n (by omega), r0, updT_s]⟩
  have N4 : aN g4 = aN h ∧ aS g4 = aS h := ⟨by rw [F4.1]; exact N3.1, by rw [F4.2.1]; exact N3.2⟩
  generalize hR : psS T n 700 N (rd h 94 2) 62 (fun _ => 0) 0 0 = R at co KF KS
  rcases co with ⟨cf, p, a, RD3⟩ | ⟨cz, ⟨fa, p, a, RD3⟩, P3, ev⟩
  · have f10 := RD3.sf
    have f11 := RD3.sa
    rw [f10] at e02
    rw [f11] at e211
    rw [f10] at b10
    have b11 := rd_bd g3 26 11
    rw [f11] at b11
    simp (disch := omega) only [CSh.o0 S4, CSh.o1 S4, CSh.o2 S4, CSh.o3 S4, CSh.o26 S4, CSh.o27 S4, CSh.o29 S4, CSh.o30 S4, CSh.o31 S4, CSh.o56 S4, CSh.o57 S4, CSh.o58 S4, CSh.o62 S4, CSh.o66 S4, CSh.o70 S4, CSh.o74 S4, CSh.o75 S4, CSh.o77 S4, CSh.o79 S4, CSh.o80 S4, CSh.o81 S4, CSh.o82 S4, CSh.o83 S4, CSh.o84 S4, CSh.o85 S4, CSh.o86 S4, CSh.o87 S4, CSh.o88 S4, CSh.o53 S4, CSh.o54 S4, CSh.o55 S4, CSh.o59 S4, CSh.o60 S4, CSh.o61 S4, CSh.o63 S4, CSh.o64 S4, CSh.o65 S4, CSh.o67 S4, CSh.o68 S4, CSh.o69 S4, CSh.o71 S4, CSh.o72 S4, CSh.o73 S4, CSh.o89 S4, CSh.o90 S4, CSh.o91 S4, CSh.l1 S4, CSh.l3 S4, CSh.l27 S4, CSh.l29 S4, CSh.l30 S4, CSh.l56 S4, CSh.l57 S4, CSh.l58 S4, CSh.l75 S4, CSh.l77 S4, CSh.l79 S4, CSh.l81 S4, CSh.l82 S4, CSh.l83 S4, CSh.l84 S4, CSh.l85 S4, CSh.l86 S4, CSh.l87 S4, CSh.l88 S4, CSh.l54 S4, CSh.l55 S4, CSh.l60 S4, CSh.l61 S4, CSh.l64 S4, CSh.l65 S4, CSh.l68 S4, CSh.l69 S4, CSh.l72 S4, CSh.l73 S4, CSh.l90 S4, CSh.l91 S4, CSh.p0_0 S4, CSh.p0_3 S4, CSh.p0_4 S4, CSh.p0_5 S4, CSh.p0_6 S4, CSh.p0_7 S4, CSh.p0_8 S4, CSh.p0_9 S4, CSh.p0_10 S4, CSh.p0_14 S4, CSh.p2_0 S4, CSh.p26_0 S4, CSh.p26_13 S4, CSh.p26_14 S4, CSh.p31_1 S4, CSh.p31_3 S4, CSh.p31_4 S4, CSh.p62_0 S4, CSh.p66_0 S4, CSh.p70_0 S4, CSh.p74_0 S4, CSh.p74_1 S4, CSh.p74_6 S4, CSh.p74_7 S4, CSh.p74_10 S4, CSh.p80_1 S4, CSh.p80_2 S4, CSh.p80_3 S4, CSh.p80_4 S4, CSh.p80_5 S4, CSh.p80_6 S4, CSh.p80_7 S4, CSh.p80_8 S4, CSh.p53_1 S4, CSh.p53_2 S4, CSh.p59_1 S4, CSh.p59_2 S4, CSh.p63_1 S4, CSh.p63_2 S4, CSh.p67_1 S4, CSh.p67_2 S4, CSh.p71_1 S4, CSh.p71_2 S4, CSh.p89_1 S4, CSh.p89_2 S4, fd0, fd1, fd2, fd3, fd4, fd5, fd6, fd7, fd8, fd9, fd10, fd11, fd12, fd13, fd14, fd15, fd16, fd17, fd18, fd19, fd20, fd21, fd22, fd23, fd24, fd25, fd26, fd27, fd28, fd29, fd30, fd31, fd32, fd33, fd34, fd35, fd36, fd37, fd38, fd39, fd40, fd41, fd42, fd43, fd44, fd45, fd46, fd47, fd48, fd49, fd50, fd51, fd52, e02, e211, -Int.reduceToNat, -Int32.reduceToNatClampNeg, il0, il1, il2, il3, il4, il5, il6, il7, il8, il9, il10, il11, il12, il13, il14, il15, il16, il17, il18, il19, il20, il21, il22, il23, il24, il25, il26, il27, il28, il29, il30, il31, il32, il35, il36, il38, il40, il42, il43, il44, il45, il46, il47, il48, il49, il50, il51, il52, il57, il59, il60, il63, il64, il75, il80, il95, il96, il97, il98, il99, il100, il120, il122, il123, il127, il128, il135, il167, il175, il225, il249, il250, il255, il256, il360, il370, il384, il600, il700, il740, il900, il940, il1024, il1600, il4800, il64000, il125000, il262143, il1000000000, iI_toInt, iI_add, iI_sub, iI_mul, iI_neg, iI_lt, iI_le, iI_eq, iI_n, iI_in, iI_div, iI_mod, iI_shm, iI_and1, iI_and7, iI_and63, iI_shr3, iI_shr6, rd_I, ob, Option.some.injEq, exists_eq_left', exists_eq_left, true_and, and_true, fqI, fqJ, eq_self, true_or, or_true, bP_0, bP_0i, npP, bP_1i, bP_b, not_true_eq_false, not_false_eq_true, false_implies, true_implies, implies_true, Classical.not_not, and_self]
    refine ⟨fun u => absurd u cf, fun _ => ?_⟩
    exact KF g4 R rfl cf G4 N4 cF e02
  · have f10 := RD3.sf
    rw [f10] at e02
    have ok := ps_ok (T := T) (n := n) (m := 700) (N := N) (rc := rd h 94 2) 62 (fun _ => 0) 0 0 (fun k k0 k1 => by omega) (by omega) (by omega) bd.2.2.1.1 (by rw [← hn]; exact ⟨by omega, t2.1⟩) (by omega) (by rw [hR]; exact cz)
    rw [hR] at ok
    obtain ⟨AO, m0, m6⟩ := ok
    simp (disch := omega) only [CSh.o0 S4, CSh.o1 S4, CSh.o2 S4, CSh.o3 S4, CSh.o26 S4, CSh.o27 S4, CSh.o29 S4, CSh.o30 S4, CSh.o31 S4, CSh.o56 S4, CSh.o57 S4, CSh.o58 S4, CSh.o62 S4, CSh.o66 S4, CSh.o70 S4, CSh.o74 S4, CSh.o75 S4, CSh.o77 S4, CSh.o79 S4, CSh.o80 S4, CSh.o81 S4, CSh.o82 S4, CSh.o83 S4, CSh.o84 S4, CSh.o85 S4, CSh.o86 S4, CSh.o87 S4, CSh.o88 S4, CSh.o53 S4, CSh.o54 S4, CSh.o55 S4, CSh.o59 S4, CSh.o60 S4, CSh.o61 S4, CSh.o63 S4, CSh.o64 S4, CSh.o65 S4, CSh.o67 S4, CSh.o68 S4, CSh.o69 S4, CSh.o71 S4, CSh.o72 S4, CSh.o73 S4, CSh.o89 S4, CSh.o90 S4, CSh.o91 S4, CSh.l1 S4, CSh.l3 S4, CSh.l27 S4, CSh.l29 S4, CSh.l30 S4, CSh.l56 S4, CSh.l57 S4, CSh.l58 S4, CSh.l75 S4, CSh.l77 S4, CSh.l79 S4, CSh.l81 S4, CSh.l82 S4, CSh.l83 S4, CSh.l84 S4, CSh.l85 S4, CSh.l86 S4, CSh.l87 S4, CSh.l88 S4, CSh.l54 S4, CSh.l55 S4, CSh.l60 S4, CSh.l61 S4, CSh.l64 S4, CSh.l65 S4, CSh.l68 S4, CSh.l69 S4, CSh.l72 S4, CSh.l73 S4, CSh.l90 S4, CSh.l91 S4, CSh.p0_0 S4, CSh.p0_3 S4, CSh.p0_4 S4, CSh.p0_5 S4, CSh.p0_6 S4, CSh.p0_7 S4, CSh.p0_8 S4, CSh.p0_9 S4, CSh.p0_10 S4, CSh.p0_14 S4, CSh.p2_0 S4, CSh.p26_0 S4, CSh.p26_13 S4, CSh.p26_14 S4, CSh.p31_1 S4, CSh.p31_3 S4, CSh.p31_4 S4, CSh.p62_0 S4, CSh.p66_0 S4, CSh.p70_0 S4, CSh.p74_0 S4, CSh.p74_1 S4, CSh.p74_6 S4, CSh.p74_7 S4, CSh.p74_10 S4, CSh.p80_1 S4, CSh.p80_2 S4, CSh.p80_3 S4, CSh.p80_4 S4, CSh.p80_5 S4, CSh.p80_6 S4, CSh.p80_7 S4, CSh.p80_8 S4, CSh.p53_1 S4, CSh.p53_2 S4, CSh.p59_1 S4, CSh.p59_2 S4, CSh.p63_1 S4, CSh.p63_2 S4, CSh.p67_1 S4, CSh.p67_2 S4, CSh.p71_1 S4, CSh.p71_2 S4, CSh.p89_1 S4, CSh.p89_2 S4, fd0, fd1, fd2, fd3, fd4, fd5, fd6, fd7, fd8, fd9, fd10, fd11, fd12, fd13, fd14, fd15, fd16, fd17, fd18, fd19, fd20, fd21, fd22, fd23, fd24, fd25, fd26, fd27, fd28, fd29, fd30, fd31, fd32, fd33, fd34, fd35, fd36, fd37, fd38, fd39, fd40, fd41, fd42, fd43, fd44, fd45, fd46, fd47, fd48, fd49, fd50, fd51, fd52, e02, -Int.reduceToNat, -Int32.reduceToNatClampNeg, il0, il1, il2, il3, il4, il5, il6, il7, il8, il9, il10, il11, il12, il13, il14, il15, il16, il17, il18, il19, il20, il21, il22, il23, il24, il25, il26, il27, il28, il29, il30, il31, il32, il35, il36, il38, il40, il42, il43, il44, il45, il46, il47, il48, il49, il50, il51, il52, il57, il59, il60, il63, il64, il75, il80, il95, il96, il97, il98, il99, il100, il120, il122, il123, il127, il128, il135, il167, il175, il225, il249, il250, il255, il256, il360, il370, il384, il600, il700, il740, il900, il940, il1024, il1600, il4800, il64000, il125000, il262143, il1000000000, iI_toInt, iI_add, iI_sub, iI_mul, iI_neg, iI_lt, iI_le, iI_eq, iI_n, iI_in, iI_div, iI_mod, iI_shm, iI_and1, iI_and7, iI_and63, iI_shr3, iI_shr6, rd_I, ob, Option.some.injEq, exists_eq_left', exists_eq_left, true_and, and_true, fqI, fqJ, eq_self, true_or, or_true, bP_0, bP_0i, npP, bP_1i, bP_b, not_true_eq_false, not_false_eq_true, false_implies, true_implies, implies_true, Classical.not_not, and_self]
    rw [ev]
    refine c_setActs S4.o31 S4.p31_3 S4.o56 S4.l56 S4.p31_4 S4.o57 S4.l57 S4.o29 S4.l29 S4.o30 S4.l30 (by omega) ⟨m0, m6⟩ fun g5 F5 r5 a5 => ?_
    refine KS g5 R rfl cz AO ((G4.mono (by simp) (by simp) (fun _ q => q) dj).trans (F5.gr.mono (by simp) (by simp) (by simp) dj)) ⟨by rw [F5.1]; exact N4.1, by rw [F5.2.1]; exact N4.2⟩ ⟨fun j j1 j2 => by rw [F5.row (by simp)]; exact cF.1 j j1 j2, by rw [F5.row (by simp)]; exact cF.2⟩ (by rw [F5.row (by simp)]; exact e02) (by rw [r5, updT_s]) fun i i0 i1 => ?_
    rw [(a5 i i0 i1).1, (a5 i i0 i1).2, F4.row (by simp), F4.row (by simp)]
    exact P3.ac i i0 i1
theorem x_plan (I : Inv h i la fr qa ac) (hK : ∀ h2, RtI (i + 1) h2 → K h2) : wp_X11_plan h 0 (fun h1 v1 => ob h1 92 11 ∧ wp_X12_plan h1 92 (Ag K v1)) := by
  have hl := I.hl
  have lt := fun (a : Nat) (ha : a ≤ 118) => I.lt ha
  have hG := I.ga
  have bd := hG.bd
  have T2 := I.t
  have W := I.2.2.2.2.2.2.2.2.2.2.2.2.2.2.2.2.1
  have Z0 := I.z
  obtain ⟨N, NM, nm⟩ := I.scn.2.2.2.1.names
  have dq : ∀ p, p ∈ [((26 : Nat), (1 : Nat))] → p ∈ DynP := by decide
  -- what stays true, the scene being shown
  have fin : ∀ h', Gr [0, 26, 29, 30, 31, 56, 57, 92, 94, 96] [92] [(26, 1)] h h' → aN h' = aN h → aS h' = aS h → c0F h h' → (∀ j, j ∈ QW → j ≠ 2 → j ≠ 15 → rd h' 92 j = rd h 92 j) → rd h' 92 2 = 0 → rd h' 0 2 = rd h' 92 15 → Scn h' 31 la (rd h' 94) (aJ h' 97) → GA (rd h' 94) → RtI (i + 1) h' := by
    intro h' G eN eS cF eq l2 f2 scn ga
    refine ⟨la, fr, qa, ac, ?_⟩
    have I0 := I
    obtain ⟨c1, c2, c3, c4, c5, c6, c7, c8, c9, c10, c11, c12, c13, c14, c15, c16, c17, c18⟩ := I
    have dn : ∀ a, (58 ≤ a ∧ a ≠ 92 ∧ a ≠ 94 ∧ a ≠ 96) ∨ a = 1 ∨ a = 3 ∨ a = 27 → a ∉ [0, 26, 29, 30, 31, 56, 57, 92, 94, 96] := fun a ha q => by
      simp only [List.mem_cons, List.not_mem_nil, or_false] at q
      omega
    have rr : ∀ a, a ≤ 118 → (58 ≤ a ∧ a ≠ 92 ∧ a ≠ 94 ∧ a ≠ 96) ∨ a = 1 ∨ a = 3 ∨ a = 27 → rd h' a = rd h a := fun a ha hb => G.row (lt a ha) (dn a hb)
    have jj : ∀ a, a ≤ 118 → a ≠ 92 → aJ h' a = aJ h a := fun a ha hb => G.jow (lt a ha) (by simpa using hb)
    refine I0.step G hl ((G.dyn (lt 2 (by omega)) (by decide)).trans c6) scn ga ⟨fun i hi => by rw [rr 99 (by omega) (by omega)]; exact c10.1 i hi, fun i hi => by rw [rr 100 (by omega) (by omega)]; exact c10.2 i hi⟩ ⟨by rw [cF.2, l2], by rw [l2]; omega, by rw [rr 1 (by omega) (by omega), rr 93 (by omega) (by omega)]; exact c11.2.2.1, by unfold TByt; rw [rr 93 (by omega) (by omega)]; exact c11.2.2.2⟩ f2 (c13.gr (cF.1 _ (by omega) (by omega)) (cF.1 _ (by omega) (by omega)) (cF.1 _ (by omega) (by omega)) (eq _ (by decide) (by omega) (by omega)) (rr _ (by omega) (by omega)) (rr _ (by omega) (by omega)) (rr _ (by omega) (by omega)) (rr _ (by omega) (by omega))) (c14.gr G c1 (by decide) (by decide) (by rw [rr 74 (by omega) (by omega)]) (eq _ (by decide) (by omega) (by omega)) ?_ (rr _ (by omega) (by omega))) (c15.gr (eq _ (by decide) (by omega) (by omega)) (eq _ (by decide) (by omega) (by omega)) (by rw [rr 74 (by omega) (by omega)]) (by rw [rr 74 (by omega) (by omega)]) (rr _ (by omega) (by omega)) (rr _ (by omega) (by omega))) (c16.gr G c1 (by decide) (by decide) (rr _ (by omega) (by omega)) (jj _ (by omega) (by omega)) (rr _ (by omega) (by omega)) ?_ ⟨Or.inl rfl, Or.inl rfl⟩) (c17.gr (rr _ (by omega) (by omega)) (rr _ (by omega) (by omega)) (jj _ (by omega) (by omega))) (c18.same c14 G eN eS)
    · have qd := c14.2.2.2.2.2.2.2.2.2
      exact dn _ (by omega)
    · refine ⟨fun a ha => ?_, fun a ha => ?_⟩
      · simp only [List.mem_cons, List.not_mem_nil, or_false] at ha; omega
      · simp only [List.mem_cons, List.not_mem_nil, or_false] at ha; omega
  have qx : ∀ {g h'}, (∀ j, rd g 92 j = rd h 92 j) → plF g h' → ∀ j, j ∈ QW → j ≠ 2 → j ≠ 15 → rd h' 92 j = rd h 92 j := fun {g h'} e u j hj j2 j15 => by
    rw [u.1 j ?_, e]
    unfold QW at hj
    simp only [List.mem_cons, List.not_mem_nil, or_false] at hj ⊢
    omega
  refine cX_plan I rfl rfl NM (fun g R eR nz G N1 cF e2 => ?_) (fun g R eR cz AO G N1 cF e2 r312 a56 => ?_)
  · have rg : ∀ a, 56 ≤ a → a ≤ 118 → rd g a = rd h a := fun a a1 a2 => G.row (lt a a2) (by simp; omega)
    have jg : ∀ a, a ≤ 118 → aJ g a = aJ h a := fun a a2 => G.jow (lt a a2) List.not_mem_nil
    have Mg := I.m.gr G
    refine ⟨Mg.o0, mX_plan (N := N) Mg (fun i i0 i1 => by rw [jg 98 (by omega)]; exact W.2.2 i i0 i1) (rg 93 (by omega) (by omega)) T2.2.2.2 (by rw [rg 92 (by omega) (by omega)]) T2.2.1 (by rw [rg 94 (by omega) (by omega)]) ⟨bd.2.2.1.1, bd.2.2.1.2⟩ (fun r r0 r1 => by rw [jg 97 (by omega)]; exact nm r r0 r1) (fun h' R' eR' nz' F pl e15 => ?_) (fun h' A c eR' => ?_)⟩
    · rw [eR'.trans eR.symm] at e15 ⊢
      refine Ag.same (hK _ ?_)
      have e94 : rd h' 94 = rd h 94 := by rw [F.row (by simp)]; exact rg 94 (by omega) (by omega)
      have j97 : aJ h' 97 = aJ h 97 := by rw [F.2.2.2.2.2.1 97 (by simp)]; exact jg 97 (by omega)
      have G2 : Gr [0, 26, 29, 30, 31, 56, 57, 92, 94, 96] [92] [(26, 1)] h h' := (G.mono (by simp) (by simp) (fun _ q => q) dq).trans (F.gr.mono (by simp) (by simp) (by simp) dq)
      have S1 : Scn g 31 la (rd h 94) (aJ h 97) := I.scn.gr G (by omega) (Or.inl rfl) (by simp) (by simp) (fun j hj => by simp; omega) (fun j hj => List.not_mem_nil) (by simp) (by simp) (by simp) (by simp) (by simp)
      have S2 : Scn h' 31 la (rd h 94) (aJ h 97) := S1.gr F.gr (by omega) (Or.inl rfl) (by simp) (by simp) (fun j hj => by simp; omega) (fun j hj => by simp; omega) (by decide) (by decide) (by decide) (by decide) (by decide)
      exact fin h' G2 (by rw [F.1]; exact N1.1) (by rw [F.2.1]; exact N1.2) ⟨fun j j1 j2 => by rw [F.row (by simp)]; exact cF.1 j j1 j2, by rw [F.row (by simp)]; exact cF.2⟩ (qx (fun j => by rw [rg 92 (by omega) (by omega)]) pl) pl.2 (by rw [F.row (by simp), e2, e15]) (by rw [e94, j97]; exact S2) (by rw [e94]; exact hG)
    · rw [eR, eR'] at nz
      exact absurd rfl nz
  · have rg : ∀ a, 58 ≤ a → a ≤ 118 → rd g a = rd h a := fun a a1 a2 => G.row (lt a a2) (by simp; omega)
    have jg : ∀ a, a ≤ 118 → aJ g a = aJ h a := fun a a2 => G.jow (lt a a2) List.not_mem_nil
    have Mg := I.m.gr G
    refine ⟨Mg.o0, mX_plan (N := N) Mg (fun i i0 i1 => by rw [jg 98 (by omega)]; exact W.2.2 i i0 i1) (rg 93 (by omega) (by omega)) T2.2.2.2 (by rw [rg 92 (by omega) (by omega)]) T2.2.1 (by rw [rg 94 (by omega) (by omega)]) ⟨bd.2.2.1.1, bd.2.2.1.2⟩ (fun r r0 r1 => by rw [jg 97 (by omega)]; exact nm r r0 r1) (fun h' R' eR' nz' => ?_) (fun h' A c eR' c0 c6 F pl e15 e249 eA eo => ?_)⟩
    · rw [eR'.trans eR.symm] at nz'
      exact absurd cz nz'
    · have eq' : R = okR A N c 0 := eR.trans eR'
      subst eq'
      have AO : AOk A c (rd h 94 2) := AO
      have r312 : rd g 31 2 = c := r312
      have a56 : ∀ i, 0 ≤ i → i < c → rd g 56 i = A (2 * i) ∧ rd g 57 i = A (2 * i + 1) := a56
      rw [rg 94 (by omega) (by omega)] at eo
      refine Ag.same (hK _ ?_)
      have G2 : Gr [0, 26, 29, 30, 31, 56, 57, 92, 94, 96] [92] [(26, 1)] h h' := (G.mono (by simp) (by simp) (fun _ q => q) dq).trans (F.gr.mono (by simp) (by simp) (by simp) dq)
      have j97 : aJ h' 97 = aJ h 97 := by rw [F.2.2.2.2.2.1 97 (by simp)]; exact jg 97 (by omega)
      obtain ⟨hGS, hWL, hSq, hP, hFit, hVT⟩ := id hG
      have e225 : ∀ i, 0 ≤ i → i < 225 → rd h' 94 i = rd h 94 i := fun i _ hi => eo i (by omega)
      have e2' := e225 2 (by omega) (by omega)
      have etS : tS (rd h' 94) = tS (rd h 94) := tS_e fun i i0 i1 => eo i (by omega)
      have hB : SBd (rd h' 94) := fun j j1 j2 => by
        by_cases z : j < 249 ∨ 250 + 2 * c ≤ j
        · rw [eo j z]; exact hGS.1.1 j j1 j2
        · by_cases z9 : j = 249
          · rw [z9, e249]; omega
          · have ej := eA (j - 250) (by omega) (by omega)
            rw [show (250 : Int) + (j - 250) = j by omega] at ej
            rw [ej]
            have ao := AO ((j - 250) / 2) (by omega) (by omega)
            by_cases z2 : (j - 250) % 2 = 0
            · rw [show j - 250 = 2 * ((j - 250) / 2) by omega]; omega
            · rw [show j - 250 = 2 * ((j - 250) / 2) + 1 by omega]
              by_cases z5 : A (2 * ((j - 250) / 2)) = 5
              · have := ao.2.2 z5; omega
              · have := ao.2.1 (by omega); omega
      have pl2 : ∀ i, 0 ≤ i → i < c → rd h' 94 (250 + 2 * i) = A (2 * i) ∧ rd h' 94 (250 + 2 * i + 1) = A (2 * i + 1) := fun i i0 i1 => ⟨eA (2 * i) (by omega) (by omega), by rw [show (250 : Int) + 2 * i + 1 = 250 + (2 * i + 1) by omega]; exact eA (2 * i + 1) (by omega) (by omega)⟩
      have ga : GA (rd h' 94) := by
        obtain ⟨g1, g2, g3, g4⟩ := GL.cg e225 hB ⟨hGS, hWL, hSq, hFit⟩
        refine ⟨g1, g2, g3, ⟨by rw [e249]; exact c6, fun i i1 i2 => ?_⟩, g4, VT.cg (e225 0 (by omega) (by omega)) (e225 1 (by omega) (by omega)) e2' (zC_c e225) (by rw [etS]; exact hVT)⟩
        rw [e249] at i2
        rw [(pl2 i i1 i2).1, (pl2 i i1 i2).2, e2']
        have ao := AO i i1 i2
        exact ⟨ao.1.2, fun z => (ao.2.1 z).2, ao.2.2⟩
      have Sc : Scn h' 31 la (rd h' 94) (aJ h' 97) := by
        obtain ⟨⟨o0, p0, p1, tb, p3, o25, l25, p4, o26, l26⟩, H, L, Nn, TT, P1, P2⟩ := I.scn
        have d31 : ∀ j, j ≤ 20 → la + j ∉ [0, 26, 29, 30, 31, 56, 57, 92, 94, 96] := fun j hj => by simp; omega
        refine ⟨⟨G2.ob o0, (G2.dyn o0.2 (by decide)).trans p0, (G2.ptr o0.2 (by decide)).trans p1, tb.gr G2 (by intro k hk; unfold DynP; simp [hk]), (G2.ptr o0.2 (by decide)).trans p3, G2.ob o25, (G2.len o25.2).trans l25, (G2.ptr o0.2 (by decide)).trans p4, G2.ob o26, (G2.len o26.2).trans l26⟩, H.gr G2 (by omega), LR.cg hGS.1 e225 (L.grw H G2 d31 (fun j hj => by simp; omega)), fun r r1 r2 => ?_, TR.cg e2' etS (zC_c e225) (TT.gr G2 (by intro k hk; unfold DynP; simp [hk]) (by simp) (by simp) (by simp)), ?_, fun i i1 i2 => ?_⟩
        · rw [G2.row (H.o4).2 (d31 4 (by omega)), j97]; rw [e2'] at r2; exact Nn r r1 r2
        · rw [F.row (by simp), r312, e249]
        · rw [e249] at i2
          show rd h' 56 i = _ ∧ rd h' 57 i = _
          rw [(pl2 i i1 i2).1, (pl2 i i1 i2).2, F.row (show (56 : Nat) ∉ [92, 94, 96] by simp), F.row (show (57 : Nat) ∉ [92, 94, 96] by simp)]
          exact a56 i i1 i2
      exact fin h' G2 (by rw [F.1]; exact N1.1) (by rw [F.2.1]; exact N1.2) ⟨fun j j1 j2 => by rw [F.row (by simp)]; exact cF.1 j j1 j2, by rw [F.row (by simp)]; exact cF.2⟩ (qx (fun j => by rw [rg 92 (by omega) (by omega)]) pl) pl.2 (by rw [F.row (by simp), e2, e15]) Sc ga
end XPL
