/-! all SPOTS listed, and which go together -/
def TG3 (h : AH) (s : Int → Int) : Prop := ∀ a b, 0 ≤ a → a < b → b < 3 → tgD h h s a b (fun p q => p < cntB s a ∧ q < cntB s b)
section LST
variable {h h1 h2 h' h0 g0 g : AH} {qa0 qa ac la : Nat} {postV : AH → Prop} {post : AH → Int32 → Prop} {a b c d f i j k t' v w x y pl r hr how goal st u sp sq q p : Int} {s t z X F B : Int → Int} {S : BS} {zz : Int64} {D : Int → Int → Prop}
theorem okN_cg (e2 : rd h' 82 = rd h 82) (e3 : aJ h' 83 = aJ h 83) : okN h' s a b p q ↔ okN h s a b p q := by
  unfold okN gspN
  rw [e2, e3]
theorem tgD.base (T : tgD h0 h s a b D) (e2 : rd h1 82 = rd h0 82) (e3 : aJ h1 83 = aJ h0 83) : tgD h1 h s a b D := fun p q p0 p1 q0 q1 => by
  have := T p q p0 p1 q0 q1
  rw [okN_cg e2 e3]
  exact this
theorem tgD.keep {a' b' : Int} (T : tgD h0 h s a b D) (O : tgO h h' a' b') (h1 : 0 ≤ a ∧ a < b ∧ b < 3) (h2 : 0 ≤ a' ∧ a' < b' ∧ b' < 3) (ne : a ≠ a' ∨ b ≠ b') : tgD h0 h' s a b D := fun p q p0 p1 q0 q1 => by
  have := T p q p0 p1 q0 q1
  rw [O ((3 * a + b) * 40 + p) (by omega) (by omega) (by omega), O ((3 * b + a) * 40 + q) (by omega) (by omega) (by omega)]
  exact this
theorem BL3.cg (L3 : BL3 h s) (e1 : rd h' 81 = rd h 81) (e2 : rd h' 82 = rd h 82) (e3 : aJ h' 83 = aJ h 83) (e4 : rd h' 84 = rd h 84) : BL3 h' s := by
  unfold BL3 BLx at L3 ⊢
  rw [e1, e2, e3, e4]
  exact L3
theorem c_match (S : CSh h) (H : LB h la) (L : LR h la s) (hl : la = 5 ∨ la = 32) (pz : aP h 80 0 = some la) (gs : GS s) (fw : few s) (v9 : ∀ k, 0 ≤ k → k < s 4 → s (135 + 4 * k + 2) ≤ 9) (L3 : BL3 h s) (K : ∀ h', Fr [] [86] [] h h' → TG3 h' s → postV h') : wp_X0_match h 80 postV := by
  unfold wp_X0_match
  refine ⟨S.o80, 86, S.p80_6, c_fillJ S.o86 S.l86 (by omega) fun g0 f0 z0 => ?_⟩
  have base : ∀ {g}, Fr [] [86] [] h g → CSh g ∧ LB g la ∧ LR g la s ∧ aP g 80 0 = some la ∧ BL3 g s ∧ rd g 82 = rd h 82 ∧ aJ g 83 = aJ h 83 := fun {g} F => ⟨S.gr F.gr, H.gr F.gr (by omega), L.fr F (fun j hj => List.not_mem_nil) (fun j hj => by simp; omega), by rw [F.aPe]; exact pz, L3.cg (F.row (by simp)) (F.row (by simp)) (F.2.2.2.2.2.1 83 (by simp)) (F.row (by simp)), F.row (by simp), F.2.2.2.2.2.1 83 (by simp)⟩
  have zz0 : ∀ {a b : Int}, 0 ≤ a ∧ a < b ∧ b < 3 → tgD h g0 s a b (fun _ _ => False) := fun {a b} hab p q p0 p1 q0 q1 => by
    rw [z0 _ (by omega), z0 _ (by omega)]
    exact ⟨⟨fun u => absurd u (zb_0 _), fun u => u.1.elim⟩, ⟨fun u => absurd u (zb_0 _), fun u => u.1.elim⟩⟩
  have two : ∀ {a b : Int} {g : AH}, 0 ≤ a ∧ a < b ∧ b < 3 → Fr [] [86] [] h g → tgD h g s a b (fun _ _ => False) → ∀ {postV : AH → Prop}, (∀ h', Fr [] [86] [] h h' → tgD h h' s a b (fun p q => p < cntB s a ∧ q < cntB s b) → tgO g h' a b → postV h') → ob g 80 0 ∧ wp_X0_matchTwo g 80 (iI a) (iI b) postV := fun {a b g} hab F z {postV} K => by
    obtain ⟨Sg, Hg, Lg, pg, L3g, e2, e3⟩ := base F
    exact ⟨Sg.o80, c_matchTwo Sg Hg Lg hl pg gs fw v9 L3g hab (z.base e2 e3) fun h' F' T O => K h' (F.trans F') (T.base e2.symm e3.symm) O⟩
  have f : ∀ {x y : Int}, 0 ≤ x → x < 100 → 0 ≤ y → y < 100 → x < y → ¬ iI y ≤ iI x := fun a b c d e => by rw [iI_le (by omega) (by omega) (by omega) (by omega)]; omega
  have iv : ∀ {x : Int} {v : Int32}, v = iI x + 1 → v = iI (x + 1) := fun {x v} e => by rw [e, show (1 : Int32) = iI 1 from rfl, iI_add]
  rw [show (0 : Int32) = iI 0 from rfl]
  refine ⟨4, ?_⟩
  show wb_X0_match_10 (wl_X0_match_10 postV 3) g0 80 (iI 0) postV
  refine ⟨fun u => absurd u (by decide), fun _ v1 e1 => ⟨3, ?_⟩⟩
  rw [iv e1]
  show wb_X0_match_19 (wl_X0_match_10 postV 3) (wl_X0_match_19 (wl_X0_match_10 postV 3) postV 2) g0 80 (iI 0) (iI 1) postV
  refine ⟨fun u => absurd u (by decide), fun _ => two (a := 0) (b := 1) (by omega) f0 (zz0 (by omega)) fun g1 F1 T1 O1 v2 e2 => ?_⟩
  rw [iv e2]
  show wb_X0_match_19 (wl_X0_match_10 postV 3) (wl_X0_match_19 (wl_X0_match_10 postV 3) postV 1) g1 80 (iI 0) (iI 2) postV
  refine ⟨fun u => absurd u (by decide), fun _ => two (a := 0) (b := 2) (by omega) F1 ((zz0 (by omega)).keep O1 (by omega) (by omega) (by omega)) fun g2 F2 T2 O2 v3 e3 => ?_⟩
  rw [iv e3]
  show wb_X0_match_19 (wl_X0_match_10 postV 3) (wl_X0_match_19 (wl_X0_match_10 postV 3) postV 0) g2 80 (iI 0) (iI 3) postV
  refine ⟨fun _ v4 e4 => ?_, fun u => absurd (by decide) u⟩
  rw [iv e4]
  show wb_X0_match_10 (wl_X0_match_10 postV 2) g2 80 (iI 1) postV
  refine ⟨fun u => absurd u (by decide), fun _ v5 e5 => ⟨2, ?_⟩⟩
  rw [iv e5]
  show wb_X0_match_19 (wl_X0_match_10 postV 2) (wl_X0_match_19 (wl_X0_match_10 postV 2) postV 1) g2 80 (iI 1) (iI 2) postV
  refine ⟨fun u => absurd u (by decide), fun _ => two (a := 1) (b := 2) (by omega) F2 (((zz0 (by omega)).keep O1 (by omega) (by omega) (by omega)).keep O2 (by omega) (by omega) (by omega)) fun g3 F3 T3 O3 v6 e6 => ?_⟩
  rw [iv e6]
  show wb_X0_match_19 (wl_X0_match_10 postV 2) (wl_X0_match_19 (wl_X0_match_10 postV 2) postV 0) g3 80 (iI 1) (iI 3) postV
  refine ⟨fun _ v7 e7 => ?_, fun u => absurd (by decide) u⟩
  rw [iv e7]
  show wb_X0_match_10 (wl_X0_match_10 postV 1) g3 80 (iI 2) postV
  refine ⟨fun u => absurd u (by decide), fun _ v8 e8 => ⟨1, ?_⟩⟩
  rw [iv e8]
  show wb_X0_match_19 (wl_X0_match_10 postV 1) (wl_X0_match_19 (wl_X0_match_10 postV 1) postV 0) g3 80 (iI 2) (iI 3) postV
  refine ⟨fun _ v9 e9 => ?_, fun u => absurd (by decide) u⟩
  rw [iv e9]
  show wb_X0_match_10 (wl_X0_match_10 postV 0) g3 80 (iI 3) postV
  refine ⟨fun _ => K g3 F3 fun a b a0 ab b3 => ?_, fun u => absurd (by decide) u⟩
  obtain ⟨_, _, _, _, _, e2, e3⟩ := base F3
  have c : (a = 0 ∧ b = 1) ∨ (a = 0 ∧ b = 2) ∨ (a = 1 ∧ b = 2) := by omega
  rcases c with ⟨rfl, rfl⟩ | ⟨rfl, rfl⟩ | ⟨rfl, rfl⟩
  · exact ((T1.keep O2 (by omega) (by omega) (by omega)).keep O3 (by omega) (by omega) (by omega)).base e2 e3
  · exact (T2.keep O3 (by omega) (by omega) (by omega)).base e2 e3
  · exact T3.base e2 e3
theorem c_list (S : CSh h) (H : LB h la) (L : LR h la s) (hl : la = 5 ∨ la = 32) (gs : GS s) (fw : few s) (v9 : ∀ k, 0 ≤ k → k < s 4 → s (135 + 4 * k + 2) ≤ 9) (K : ∀ g h', g = hP h 80 0 la → Fr [81, 82, 84] [83, 86] [] g h' → BL3 h' s → TG3 h' s → postV h') : wp_X0_list h 80 la postV := by
  have n2 : s 2 ≤ 8 := gs.1.2.2.2.1
  have b2 := gs.1.1 2 (by omega) (by omega)
  unfold wp_X0_list
  refine ⟨S.o80, fun g eg => ?_⟩
  have Gg : Gr [] [] [(80, 0)] h g := by rw [eg]; exact gr_hP1 (k := 0) (by decide)
  have Sg := S.gr Gg
  have Hg : LB g la := H.gr Gg (by omega)
  have Lg : LR g la s := L.grw H Gg (fun j _ => List.not_mem_nil) (fun j _ => List.not_mem_nil)
  have pg : aP g 80 0 = some la := by rw [eg, aP_hP, if_pos rfl]
  have K := K g
  rw [show (0 : Int32) = iI 0 from rfl]
  refine lf_for (W := fun k (b : AH) i => wl_X0_list_7 postV k b 80 la (iI i)) (lo := 0) (hi := 3) (fun i b => Fr [81, 82, 84] [83] [] g b ∧ ∀ r, 0 ≤ r → r < i → (r < s 2 → BLx b s r (ltB s r)) ∧ (s 2 ≤ r → rd b 81 r = 1 ∧ aJ b 83 (40 * r).toNat = 0)) (by omega) (fun k b r i0 i1 J nx => ?_) (fun k b J => ?_) g ⟨(Fr.refl g).mono (by simp) (by simp) (by simp), fun r r0 r1 => by omega⟩
  · obtain ⟨Fb, J⟩ := J
    show wb_X0_list_7 (wl_X0_list_7 postV k) b 80 la (iI r) postV
    have Sb := Sg.gr Fb.gr
    have keep : ∀ {b' : AH}, oth b b' r → ∀ r', 0 ≤ r' → r' < r → (r' < s 2 → BLx b' s r' (ltB s r')) ∧ (s 2 ≤ r' → rd b' 81 r' = 1 ∧ aJ b' 83 (40 * r').toNat = 0) := fun {b'} O r' r0 r1 => by
      refine ⟨fun c => ?_, fun c => ?_⟩
      · obtain ⟨cn, ss, nn, cv⟩ := (J r' r0 r1).1 c
        have lb := ltB_b (s := s) (r := r')
        have bd : ∀ q, 0 ≤ q → q < ltB s r' → hdB s r' q → 0 ≤ nmB s r' q ∧ nmB s r' q < 40 := fun q q0 q1 qd => by
          have a := nmB_lt (s := s) (r := r') (sp := q) (sq := ltB s r') q0 q1 qd
          have b := nmB_40 gs fw r0 c
          exact ⟨nmB_nn q0, by omega⟩
        refine ⟨by rw [O.1 r' (by omega)]; exact cn, fun q q0 q1 qd => ?_, fun q q0 q1 qd => ?_, fun q q0 q1 qd => ?_⟩
        · have := bd q q0 q1 qd
          rw [O.2.1 _ (by omega)]; exact ss q q0 q1 qd
        · rw [O.2.2.1 _ (by omega)]; exact nn q q0 q1 qd
        · have := bd q q0 q1 qd
          rw [O.2.2.2 _ (by omega) (by omega)]; exact cv q q0 q1 qd
      · obtain ⟨u1, u2⟩ := (J r' r0 r1).2 c
        rw [O.1 r' (by omega), O.2.2.2 (40 * r') (by omega) (by omega)]
        exact ⟨u1, u2⟩
    unfold wb_X0_list_7 wb_X0_list_52
    simp (disch := omega) only [CSh.o0 Sb, CSh.o1 Sb, CSh.o2 Sb, CSh.o3 Sb, CSh.o26 Sb, CSh.o27 Sb, CSh.o29 Sb, CSh.o30 Sb, CSh.o31 Sb, CSh.o56 Sb, CSh.o57 Sb, CSh.o58 Sb, CSh.o62 Sb, CSh.o66 Sb, CSh.o70 Sb, CSh.o74 Sb, CSh.o75 Sb, CSh.o77 Sb, CSh.o79 Sb, CSh.o80 Sb, CSh.o81 Sb, CSh.o82 Sb, CSh.o83 Sb, CSh.o84 Sb, CSh.o85 Sb, CSh.o86 Sb, CSh.o87 Sb, CSh.o88 Sb, CSh.o53 Sb, CSh.o54 Sb, CSh.o55 Sb, CSh.o59 Sb, CSh.o60 Sb, CSh.o61 Sb, CSh.o63 Sb, CSh.o64 Sb, CSh.o65 Sb, CSh.o67 Sb, CSh.o68 Sb, CSh.o69 Sb, CSh.o71 Sb, CSh.o72 Sb, CSh.o73 Sb, CSh.o89 Sb, CSh.o90 Sb, CSh.o91 Sb, CSh.l1 Sb, CSh.l3 Sb, CSh.l27 Sb, CSh.l29 Sb, CSh.l30 Sb, CSh.l56 Sb, CSh.l57 Sb, CSh.l58 Sb, CSh.l75 Sb, CSh.l77 Sb, CSh.l79 Sb, CSh.l81 Sb, CSh.l82 Sb, CSh.l83 Sb, CSh.l84 Sb, CSh.l85 Sb, CSh.l86 Sb, CSh.l87 Sb, CSh.l88 Sb, CSh.l54 Sb, CSh.l55 Sb, CSh.l60 Sb, CSh.l61 Sb, CSh.l64 Sb, CSh.l65 Sb, CSh.l68 Sb, CSh.l69 Sb, CSh.l72 Sb, CSh.l73 Sb, CSh.l90 Sb, CSh.l91 Sb, CSh.p0_0 Sb, CSh.p0_3 Sb, CSh.p0_4 Sb, CSh.p0_5 Sb, CSh.p0_6 Sb, CSh.p0_7 Sb, CSh.p0_8 Sb, CSh.p0_9 Sb, CSh.p0_10 Sb, CSh.p0_14 Sb, CSh.p2_0 Sb, CSh.p26_0 Sb, CSh.p26_13 Sb, CSh.p26_14 Sb, CSh.p31_1 Sb, CSh.p31_3 Sb, CSh.p31_4 Sb, CSh.p62_0 Sb, CSh.p66_0 Sb, CSh.p70_0 Sb, CSh.p74_0 Sb, CSh.p74_1 Sb, CSh.p74_6 Sb, CSh.p74_7 Sb, CSh.p74_10 Sb, CSh.p80_1 Sb, CSh.p80_2 Sb, CSh.p80_3 Sb, CSh.p80_4 Sb, CSh.p80_5 Sb, CSh.p80_6 Sb, CSh.p80_7 Sb, CSh.p80_8 Sb, CSh.p53_1 Sb, CSh.p53_2 Sb, CSh.p59_1 Sb, CSh.p59_2 Sb, CSh.p63_1 Sb, CSh.p63_2 Sb, CSh.p67_1 Sb, CSh.p67_2 Sb, CSh.p71_1 Sb, CSh.p71_2 Sb, CSh.p89_1 Sb, CSh.p89_2 Sb, -Int.reduceToNat, -Int32.reduceToNatClampNeg, il0, il1, il2, il3, il4, il5, il6, il7, il8, il9, il10, il11, il12, il13, il14, il15, il16, il17, il18, il19, il20, il21, il22, il23, il24, il25, il26, il27, il28, il29, il30, il31, il32, il35, il36, il38, il40, il42, il43, il44, il45, il46, il47, il48, il49, il50, il51, il52, il57, il59, il60, il63, il64, il75, il80, il95, il96, il97, il98, il99, il100, il120, il122, il123, il127, il128, il135, il167, il175, il225, il249, il250, il255, il256, il360, il370, il384, il600, il700, il740, il900, il940, il1024, il1600, il4800, il64000, il125000, il262143, il1000000000, iI_toInt, iI_add, iI_sub, iI_mul, iI_neg, iI_lt, iI_le, iI_eq, iI_n, iI_in, iI_div, iI_mod, iI_shm, iI_and1, iI_and7, iI_and63, iI_shr3, iI_shr6, rd_I, ob, Option.some.injEq, exists_eq_left', exists_eq_left, true_and, and_true, fqI, fqJ, eq_self, true_or, or_true, bP_0, bP_0i, npP, bP_1i, bP_b, not_true_eq_false, not_false_eq_true, false_implies, true_implies, implies_true, Classical.not_not, and_self]
    refine ⟨fun u => by omega, fun _ => ?_⟩
    intro g1 w1
    obtain ⟨f1, r1⟩ := wI (i := r) (by omega) (by omega) (by omega) w1
    have S1 := Sb.gr f1.gr
    have F1 : Fr [81, 82, 84] [83] [] g g1 := Fb.trans (f1.mono (by simp) (by simp) (by simp))
    have H1 : LB g1 la := Hg.gr F1.gr (by omega)
    have L1 : LR g1 la s := Lg.fr F1 (fun j hj => by simp; omega) (fun j hj => by simp; omega)
    have p1 : aP g1 80 0 = some la := by rw [F1.aPe]; exact pg
    have c5 := L1.c5
    have o1 : oth b g1 r := ⟨fun j hj => by rw [r1, updT_n hj], fun j _ => by rw [f1.row (by simp)], fun j _ => by rw [f1.row (by simp)], fun j _ _ => by rw [f1.2.2.2.2.2.1 83 (by simp)]⟩
    simp (disch := omega) only [CSh.o0 S1, CSh.o1 S1, CSh.o2 S1, CSh.o3 S1, CSh.o26 S1, CSh.o27 S1, CSh.o29 S1, CSh.o30 S1, CSh.o31 S1, CSh.o56 S1, CSh.o57 S1, CSh.o58 S1, CSh.o62 S1, CSh.o66 S1, CSh.o70 S1, CSh.o74 S1, CSh.o75 S1, CSh.o77 S1, CSh.o79 S1, CSh.o80 S1, CSh.o81 S1, CSh.o82 S1, CSh.o83 S1, CSh.o84 S1, CSh.o85 S1, CSh.o86 S1, CSh.o87 S1, CSh.o88 S1, CSh.o53 S1, CSh.o54 S1, CSh.o55 S1, CSh.o59 S1, CSh.o60 S1, CSh.o61 S1, CSh.o63 S1, CSh.o64 S1, CSh.o65 S1, CSh.o67 S1, CSh.o68 S1, CSh.o69 S1, CSh.o71 S1, CSh.o72 S1, CSh.o73 S1, CSh.o89 S1, CSh.o90 S1, CSh.o91 S1, CSh.l1 S1, CSh.l3 S1, CSh.l27 S1, CSh.l29 S1, CSh.l30 S1, CSh.l56 S1, CSh.l57 S1, CSh.l58 S1, CSh.l75 S1, CSh.l77 S1, CSh.l79 S1, CSh.l81 S1, CSh.l82 S1, CSh.l83 S1, CSh.l84 S1, CSh.l85 S1, CSh.l86 S1, CSh.l87 S1, CSh.l88 S1, CSh.l54 S1, CSh.l55 S1, CSh.l60 S1, CSh.l61 S1, CSh.l64 S1, CSh.l65 S1, CSh.l68 S1, CSh.l69 S1, CSh.l72 S1, CSh.l73 S1, CSh.l90 S1, CSh.l91 S1, CSh.p0_0 S1, CSh.p0_3 S1, CSh.p0_4 S1, CSh.p0_5 S1, CSh.p0_6 S1, CSh.p0_7 S1, CSh.p0_8 S1, CSh.p0_9 S1, CSh.p0_10 S1, CSh.p0_14 S1, CSh.p2_0 S1, CSh.p26_0 S1, CSh.p26_13 S1, CSh.p26_14 S1, CSh.p31_1 S1, CSh.p31_3 S1, CSh.p31_4 S1, CSh.p62_0 S1, CSh.p66_0 S1, CSh.p70_0 S1, CSh.p74_0 S1, CSh.p74_1 S1, CSh.p74_6 S1, CSh.p74_7 S1, CSh.p74_10 S1, CSh.p80_1 S1, CSh.p80_2 S1, CSh.p80_3 S1, CSh.p80_4 S1, CSh.p80_5 S1, CSh.p80_6 S1, CSh.p80_7 S1, CSh.p80_8 S1, CSh.p53_1 S1, CSh.p53_2 S1, CSh.p59_1 S1, CSh.p59_2 S1, CSh.p63_1 S1, CSh.p63_2 S1, CSh.p67_1 S1, CSh.p67_2 S1, CSh.p71_1 S1, CSh.p71_2 S1, CSh.p89_1 S1, CSh.p89_2 S1, LB.o0 H1, fd0, fd1, fd2, fd3, fd4, fd5, fd6, fd7, fd8, fd9, fd10, fd11, fd12, fd13, fd14, fd15, fd16, fd17, fd18, fd19, fd20, fd21, fd22, fd23, fd24, fd25, fd26, fd27, fd28, fd29, fd30, fd31, fd32, fd33, fd34, fd35, fd36, fd37, fd38, fd39, fd40, fd41, fd42, fd43, fd44, fd45, fd46, fd47, fd48, fd49, fd50, fd51, fd52, c5, -Int.reduceToNat, -Int32.reduceToNatClampNeg, il0, il1, il2, il3, il4, il5, il6, il7, il8, il9, il10, il11, il12, il13, il14, il15, il16, il17, il18, il19, il20, il21, il22, il23, il24, il25, il26, il27, il28, il29, il30, il31, il32, il35, il36, il38, il40, il42, il43, il44, il45, il46, il47, il48, il49, il50, il51, il52, il57, il59, il60, il63, il64, il75, il80, il95, il96, il97, il98, il99, il100, il120, il122, il123, il127, il128, il135, il167, il175, il225, il249, il250, il255, il256, il360, il370, il384, il600, il700, il740, il900, il940, il1024, il1600, il4800, il64000, il125000, il262143, il1000000000, iI_toInt, iI_add, iI_sub, iI_mul, iI_neg, iI_lt, iI_le, iI_eq, iI_n, iI_in, iI_div, iI_mod, iI_shm, iI_and1, iI_and7, iI_and63, iI_shr3, iI_shr6, rd_I, ob, Option.some.injEq, exists_eq_left', exists_eq_left, true_and, and_true, fqI, fqJ, eq_self, true_or, or_true, bP_0, bP_0i, npP, bP_1i, bP_b, not_true_eq_false, not_false_eq_true, false_implies, true_implies, implies_true, Classical.not_not, and_self]
    refine ⟨fun c => ?_, fun c => ?_⟩
    · intro g2 w2
      obtain ⟨f2, r2⟩ := wI (i := r) (by omega) (by omega) (by omega) w2
      have S2 := S1.gr f2.gr
      simp (disch := omega) only [CSh.o0 S2, CSh.o1 S2, CSh.o2 S2, CSh.o3 S2, CSh.o26 S2, CSh.o27 S2, CSh.o29 S2, CSh.o30 S2, CSh.o31 S2, CSh.o56 S2, CSh.o57 S2, CSh.o58 S2, CSh.o62 S2, CSh.o66 S2, CSh.o70 S2, CSh.o74 S2, CSh.o75 S2, CSh.o77 S2, CSh.o79 S2, CSh.o80 S2, CSh.o81 S2, CSh.o82 S2, CSh.o83 S2, CSh.o84 S2, CSh.o85 S2, CSh.o86 S2, CSh.o87 S2, CSh.o88 S2, CSh.o53 S2, CSh.o54 S2, CSh.o55 S2, CSh.o59 S2, CSh.o60 S2, CSh.o61 S2, CSh.o63 S2, CSh.o64 S2, CSh.o65 S2, CSh.o67 S2, CSh.o68 S2, CSh.o69 S2, CSh.o71 S2, CSh.o72 S2, CSh.o73 S2, CSh.o89 S2, CSh.o90 S2, CSh.o91 S2, CSh.l1 S2, CSh.l3 S2, CSh.l27 S2, CSh.l29 S2, CSh.l30 S2, CSh.l56 S2, CSh.l57 S2, CSh.l58 S2, CSh.l75 S2, CSh.l77 S2, CSh.l79 S2, CSh.l81 S2, CSh.l82 S2, CSh.l83 S2, CSh.l84 S2, CSh.l85 S2, CSh.l86 S2, CSh.l87 S2, CSh.l88 S2, CSh.l54 S2, CSh.l55 S2, CSh.l60 S2, CSh.l61 S2, CSh.l64 S2, CSh.l65 S2, CSh.l68 S2, CSh.l69 S2, CSh.l72 S2, CSh.l73 S2, CSh.l90 S2, CSh.l91 S2, CSh.p0_0 S2, CSh.p0_3 S2, CSh.p0_4 S2, CSh.p0_5 S2, CSh.p0_6 S2, CSh.p0_7 S2, CSh.p0_8 S2, CSh.p0_9 S2, CSh.p0_10 S2, CSh.p0_14 S2, CSh.p2_0 S2, CSh.p26_0 S2, CSh.p26_13 S2, CSh.p26_14 S2, CSh.p31_1 S2, CSh.p31_3 S2, CSh.p31_4 S2, CSh.p62_0 S2, CSh.p66_0 S2, CSh.p70_0 S2, CSh.p74_0 S2, CSh.p74_1 S2, CSh.p74_6 S2, CSh.p74_7 S2, CSh.p74_10 S2, CSh.p80_1 S2, CSh.p80_2 S2, CSh.p80_3 S2, CSh.p80_4 S2, CSh.p80_5 S2, CSh.p80_6 S2, CSh.p80_7 S2, CSh.p80_8 S2, CSh.p53_1 S2, CSh.p53_2 S2, CSh.p59_1 S2, CSh.p59_2 S2, CSh.p63_1 S2, CSh.p63_2 S2, CSh.p67_1 S2, CSh.p67_2 S2, CSh.p71_1 S2, CSh.p71_2 S2, CSh.p89_1 S2, CSh.p89_2 S2, -Int.reduceToNat, -Int32.reduceToNatClampNeg, il0, il1, il2, il3, il4, il5, il6, il7, il8, il9, il10, il11, il12, il13, il14, il15, il16, il17, il18, il19, il20, il21, il22, il23, il24, il25, il26, il27, il28, il29, il30, il31, il32, il35, il36, il38, il40, il42, il43, il44, il45, il46, il47, il48, il49, il50, il51, il52, il57, il59, il60, il63, il64, il75, il80, il95, il96, il97, il98, il99, il100, il120, il122, il123, il127, il128, il135, il167, il175, il225, il249, il250, il255, il256, il360, il370, il384, il600, il700, il740, il900, il940, il1024, il1600, il4800, il64000, il125000, il262143, il1000000000, iI_toInt, iI_add, iI_sub, iI_mul, iI_neg, iI_lt, iI_le, iI_eq, iI_n, iI_in, iI_div, iI_mod, iI_shm, iI_and1, iI_and7, iI_and63, iI_shr3, iI_shr6, rd_I, ob, Option.some.injEq, exists_eq_left', exists_eq_left, true_and, and_true, fqI, fqJ, eq_self, true_or, or_true, bP_0, bP_0i, npP, bP_1i, bP_b, not_true_eq_false, not_false_eq_true, false_implies, true_implies, implies_true, Classical.not_not, and_self]
      intro g3 w3
      have f3 : Fr [] [83] [] g2 g3 := by rw [w3]; exact fr_hJ
      have j3 : ∀ j : Nat, aJ g3 83 j = if j = (r * 40).toNat then 0 else aJ g2 83 j := fun j => by rw [w3, aJ_hJ]
      have o3 : oth b g3 r := o1.trans ⟨fun j hj => by rw [f3.row (by simp), r2, updT_n hj], fun j _ => by rw [f3.row (by simp), f2.row (by simp)], fun j _ => by rw [f3.row (by simp), f2.row (by simp)], fun j j0 hj => by rw [j3, if_neg (by omega), f2.2.2.2.2.2.1 83 (by simp)]⟩
      refine nx g3 ⟨F1.trans ((f2.mono (by simp) (by simp) (by simp)).trans (f3.mono (by simp) (by simp) (by simp))), fun r' r0 r1' => ?_⟩
      by_cases cr : r' = r
      · rw [cr]
        exact ⟨fun u => by omega, fun _ => ⟨by rw [f3.row (by simp), r2, updT_s], by rw [j3, if_pos (by omega)]⟩⟩
      · exact keep o3 r' r0 (by omega)
    · refine c_listOf S1 H1 L1 hl p1 gs fw i0 (by omega) (by rw [r1, updT_s]) fun g2 F2 B2 O2 => ?_
      refine nx g2 ⟨F1.trans F2, fun r' r0 r1' => ?_⟩
      by_cases cr : r' = r
      · rw [cr]; exact ⟨fun _ => B2, fun u => by omega⟩
      · exact keep (o1.trans O2) r' r0 (by omega)
  · obtain ⟨Fb, J⟩ := J
    show wb_X0_list_7 (wl_X0_list_7 postV k) b 80 la (iI 3) postV
    have Sb := Sg.gr Fb.gr
    have Hb : LB b la := Hg.gr Fb.gr (by omega)
    have Lb : LR b la s := Lg.fr Fb (fun j hj => by simp; omega) (fun j hj => by simp; omega)
    unfold wb_X0_list_7
    refine ⟨fun _ => ⟨Sb.o80, c_match Sb Hb Lb hl (by rw [Fb.aPe]; exact pg) gs fw v9 J fun h' F' T => ?_⟩, fun u => absurd (by decide) u⟩
    have J' : BL3 b s := J
    exact K h' eg ((Fb.mono (by simp) (by simp) (by simp)).trans (F'.mono (by simp) (by simp) (by simp))) (J'.cg (F'.row (by simp)) (F'.row (by simp)) (F'.2.2.2.2.2.1 83 (by simp)) (F'.row (by simp))) T
end LST
