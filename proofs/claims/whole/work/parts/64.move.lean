/-! a state with another town; SLIDE and TURN done -/
section CONG
variable {h h' : AH} {la tw : Nat} {s s' t z T : Int → Int} {a b c d r x y n sp sq w hh u hr how one : Int}
theorem zC_c (e : ∀ i, 0 ≤ i → i < 225 → s' i = s i) : zC s' = zC s := by
  funext i
  unfold zC
  by_cases c : 0 ≤ i ∧ i < 24
  · rw [if_pos c, if_pos c, e _ (by omega) (by omega)]
  · rw [if_neg c, if_neg c]
theorem VT.cg {z' : Int → Int} (e0 : s' 0 = s 0) (e1 : s' 1 = s 1) (e2 : s' 2 = s 2) (ez : z' = z) (V : VT s t z) : VT s' t z' := by
  unfold VT insT at V ⊢
  rw [e0, e1, e2, ez]
  exact V
theorem GL.cg (e : ∀ i, 0 ≤ i → i < 225 → s' i = s i) (hB : SBd s') (g : GS s ∧ WLi s ∧ SqOk s ∧ Fit s) : GS s' ∧ WLi s' ∧ SqOk s' ∧ Fit s' := by
  obtain ⟨⟨⟨hS, n0, n1, n2, n3, n4, n5, hK, hW⟩, ⟨d1, d2, d3⟩, hPo, hNe⟩, hL, hq, ⟨t0, v0, r0, u0, v9⟩⟩ := g
  have b4 := hS 4 (by omega) (by omega)
  have e0 := e 0 (by omega) (by omega)
  have e1 := e 1 (by omega) (by omega)
  have e2 := e 2 (by omega) (by omega)
  have e3 := e 3 (by omega) (by omega)
  have e4 := e 4 (by omega) (by omega)
  have e5 := e 5 (by omega) (by omega)
  have e6 := e 6 (by omega) (by omega)
  have e7 := e 7 (by omega) (by omega)
  have e8 := e 8 (by omega) (by omega)
  have e9 := e 9 (by omega) (by omega)
  refine ⟨⟨⟨hB, by omega, by omega, by omega, by omega, by omega, by omega, fun k k1 k2 => ?_, fun w w1 w2 => ?_⟩, ⟨fun i i1 i2 => ?_, fun x y x1 x2 y1 y2 => ?_, fun r r1 r2 => ?_⟩, fun k k1 k2 => ?_, fun k k1 k2 => ?_⟩, fun w w1 w2 => ?_, ?_, ⟨t0, VT.cg e0 e1 e2 (zC_c e) v0, fun k k1 k2 => ?_, fun k l k0 kl l1 => ?_, fun k k1 k2 => ?_⟩⟩
  · rw [e _ (by omega) (by omega), e (135 + 4 * k + 1) (by omega) (by omega), e2]; exact hK k k1 (by omega)
  · rw [e (175 + 5 * w) (by omega) (by omega), e (175 + 5 * w + 1) (by omega) (by omega), e (175 + 5 * w + 2) (by omega) (by omega), e2]; exact hW w w1 (by omega)
  · rw [e _ (by omega) (by omega)]; exact d1 i i1 i2
  · rw [e _ (by omega) (by omega)]; exact d2 x y x1 (by omega) y1 (by omega)
  · rw [e (99 + 3 * r) (by omega) (by omega), e (99 + 3 * r + 1) (by omega) (by omega), e (99 + 3 * r + 2) (by omega) (by omega)]; exact d3 r r1 (by omega)
  · rw [e (123 + 2 * k) (by omega) (by omega), e (123 + 2 * k + 1) (by omega) (by omega)]; exact hPo k k1 (by omega)
  · rw [e (135 + 4 * k) (by omega) (by omega), e (135 + 4 * k + 1) (by omega) (by omega)]; exact hNe k k1 (by omega)
  · rw [e (175 + 5 * w) (by omega) (by omega), e (175 + 5 * w + 1) (by omega) (by omega), e (175 + 5 * w + 2) (by omega) (by omega), e (175 + 5 * w + 3) (by omega) (by omega)]; exact hL w w1 (by omega)
  · unfold SqOk at hq ⊢; rw [e6, e7, e8, e9]; exact hq
  · rw [e (135 + 4 * k) (by omega) (by omega), e (135 + 4 * k + 1) (by omega) (by omega), e (135 + 4 * k + 2) (by omega) (by omega), zC_c e]; exact r0 k k1 (by omega)
  · rw [e (135 + 4 * k) (by omega) (by omega), e (135 + 4 * k + 1) (by omega) (by omega), e (135 + 4 * l) (by omega) (by omega), e (135 + 4 * l + 1) (by omega) (by omega)]; exact u0 k l k0 kl (by omega)
  · rw [e (135 + 4 * k + 2) (by omega) (by omega)]; exact v9 k k1 (by omega)
theorem LR.cg (g : SOk s) (e : ∀ i, 0 ≤ i → i < 225 → s' i = s i) (L : LR h la s) : LR h la s' := by
  obtain ⟨hS, n0, n1, n2, n3, n4, n5, -, -⟩ := g
  have e0 := e 0 (by omega) (by omega)
  have e1 := e 1 (by omega) (by omega)
  have e2 := e 2 (by omega) (by omega)
  have e3 := e 3 (by omega) (by omega)
  have e4 := e 4 (by omega) (by omega)
  have e5 := e 5 (by omega) (by omega)
  obtain ⟨q1, q2, q3, q4, q5, q6, q7, q8, q9, q10, q11, q12, q13, q14, q15, q16, q17, q18, q19, q20, q21, q22, q23⟩ := L
  refine ⟨by rw [e0]; exact q1, by rw [e1]; exact q2, by rw [e2]; exact q3, by rw [e3]; exact q4, by rw [e4]; exact q5, by rw [e5]; exact q6, fun x y x1 x2 y1 y2 => ?_, fun g x y g1 g2 x1 x2 y1 y2 => ?_, fun i i1 i2 => ?_, fun r r1 r2 => ?_, fun r r1 r2 => ?_, fun r r1 r2 => ?_, fun k k1 k2 => ?_, fun k k1 k2 => ?_, fun k k1 k2 => ?_, fun k k1 k2 => ?_, fun k k1 k2 => ?_, fun r r1 r2 => ?_, fun w w1 w2 => ?_, fun w w1 w2 => ?_, fun w w1 w2 => ?_, fun w w1 w2 => ?_, fun x y x1 x2 y1 y2 => ?_⟩
  · rw [e _ (by omega) (by omega)]; exact q7 x y x1 (by omega) y1 (by omega)
  · rw [e (11 + 8 * y + x) (by omega) (by omega), e0, e1]; exact q8 g x y g1 g2 x1 x2 y1 y2
  · rw [e _ (by omega) (by omega)]; exact q9 i i1 i2
  · rw [e _ (by omega) (by omega)]; exact q10 r r1 (by omega)
  · rw [e _ (by omega) (by omega)]; exact q11 r r1 (by omega)
  · rw [e _ (by omega) (by omega)]; exact q12 r r1 (by omega)
  · rw [e (123 + 2 * k) (by omega) (by omega), e (123 + 2 * k + 1) (by omega) (by omega)]; exact q13 k k1 (by omega)
  · rw [e _ (by omega) (by omega)]; exact q14 k k1 (by omega)
  · rw [e _ (by omega) (by omega)]; exact q15 k k1 (by omega)
  · rw [e _ (by omega) (by omega)]; exact q16 k k1 (by omega)
  · rw [e _ (by omega) (by omega)]; exact q17 k k1 (by omega)
  · rw [e _ (by omega) (by omega)]; exact q18 r r1 r2
  · rw [e _ (by omega) (by omega)]; exact q19 w w1 (by omega)
  · rw [e _ (by omega) (by omega)]; exact q20 w w1 (by omega)
  · rw [e (175 + 5 * w) (by omega) (by omega), e (175 + 5 * w + 2) (by omega) (by omega), e (175 + 5 * w + 3) (by omega) (by omega)]; exact q21 w w1 (by omega)
  · rw [e _ (by omega) (by omega)]; exact q22 w w1 (by omega)
  · rw [e 6 (by omega) (by omega), e 7 (by omega) (by omega), e 8 (by omega) (by omega), e 9 (by omega) (by omega)]; exact q23 x y x1 x2 y1 y2
theorem TR.cg {z' T : Int → Int} (e2 : s' 2 = s 2) (et : T = t) (ez : z' = z) (R : TR h tw la s t z) : TR h tw la s' T z' := by
  unfold TR at R ⊢
  rw [e2, et, ez]
  exact R
/-- a raft put elsewhere -/
theorem TR.put (R : TR h tw la s t z) (f : Fr [tw + 1] [tw + 2] [] h h') (e : EZ z s) (hD : SD s) (n2 : s 2 ≤ 8) (h1 : 0 ≤ r) (h2 : r < s 2) (hT : ∀ j, j < 3 * r ∨ 3 * r + 2 < j → T j = t j) (hS : Spot T z r) (hI : in8 T z r)
    (es : rd h' (tw + 1) = updT (rd h (tw + 1)) r (enc T r)) (ej : ∀ j : Nat, aJ h' (tw + 2) j = if j = r.toNat then cvZ (wsp s r (enc T r)) (hsp s r (enc T r)) (enc T r % 64) else aJ h (tw + 2) j) : TR h' tw la s T z := by
  obtain ⟨B, p, q1, q2⟩ := R
  obtain ⟨w1, w2⟩ := wsp_enc e h1 (show r < 8 by omega) hS
  refine ⟨B.fr f ⟨congrFun (f.2.2.2.2.2.2 tw List.not_mem_nil) 1, congrFun (f.2.2.2.2.2.2 tw List.not_mem_nil) 2⟩, (congrFun (f.2.2.2.2.2.2 tw List.not_mem_nil) 0).trans p, fun o o1 o2 => ?_, fun o o1 o2 x y x1 x2 y1 y2 => ?_⟩
  · rw [es]
    by_cases c : o = r
    · subst c; rw [updT_s]
    · rw [updT_n c, q1 o o1 o2]
      unfold enc
      rw [hT _ (by omega), hT _ (by omega), hT _ (by omega)]
  · rw [ej]
    by_cases c : o = r
    · subst c
      rw [if_pos rfl, w1, w2]
      exact zb_spot hS hI (Z1.of e hD h1 h2 n2) x1 x2 y1 y2
    · rw [if_neg (by omega), q2 o o1 o2 x y x1 x2 y1 y2]
      exact ((spot_c (s := s) (z := z) (hT _ (by omega)) (hT _ (by omega)) (hT _ (by omega))).2.2.2.2.2.1 x y).symm
theorem why2_0 (e : why2 s T z r hr = 0) : insT s T z r ∧ ¬ onAnT s T z r ∧ flT s T z r hr ∧ ¬ farT s T z r := by
  unfold why2 at e
  by_cases c1 : insT s T z r
  case neg => rw [ite_f c1] at e; omega
  rw [ite_t c1] at e
  by_cases c2 : onAnT s T z r
  · rw [ite_t c2] at e; omega
  rw [ite_f c2] at e
  by_cases c3 : flT s T z r hr
  case neg => rw [ite_f c3] at e; omega
  rw [ite_t c3] at e
  by_cases c4 : farT s T z r
  · rw [ite_t c4] at e; omega
  exact ⟨c1, c2, c3, c4⟩
theorem why_0 (e : whyT s t z r how hr = 0) : flT s t z r hr ∧ ¬ (how = 4 ∧ polT s t z r = -1) ∧ insT s (candT s t z r how) z r ∧ ¬ onAnT s (candT s t z r how) z r ∧ flT s (candT s t z r how) z r hr ∧ ¬ farT s (candT s t z r how) z r := by
  unfold whyT at e
  by_cases c1 : flT s t z r hr
  case neg => rw [ite_f c1] at e; omega
  rw [ite_t c1] at e
  by_cases c2 : how = 4 ∧ polT s t z r = -1
  · rw [ite_t c2] at e; omega
  rw [ite_f c2] at e
  exact ⟨c1, c2, why2_0 e⟩
theorem why_bd : 0 ≤ whyT s t z r how hr ∧ whyT s t z r how hr ≤ 6 := by
  unfold whyT why2 iteP
  (repeat' split) <;> omega
theorem VT.cand (V : VT s t z) (hZ : Z1 z r) (n0 : s 0 ≤ 8) (n1 : s 1 ≤ 8) (h1 : 0 ≤ r) (h2 : r < s 2) (e : whyT s t z r how hr = 0) : VT s (candT s t z r how) z ∧ Spot (candT s t z r how) z r ∧ in8 (candT s t z r how) z r := by
  obtain ⟨-, -, c1, c2, -, -⟩ := why_0 e
  have hS := cand_spot (V r h1 h2).1 c1 hZ n0 n1
  refine ⟨fun o o1 o2 => ?_, hS, in8_of n0 n1 c1⟩
  by_cases c : o = r
  · subst c
    exact ⟨hS, c1, fun q q1 q2 q3 q4 => c2 ⟨q, q1, q2, q3, q4⟩⟩
  · obtain ⟨v1, v2, v3⟩ := V o o1 o2
    have cc := cand_c (s := s) (t := t) (z := z) (how := how) c
    refine ⟨cc.1.mpr v1, cc.2.2.2.2.1.mpr v2, fun q q1 q2 q3 q4 => ?_⟩
    by_cases d : q = r
    · subst d
      exact c2 ⟨o, o1, o2, c, over_sym.mp q4⟩
    · refine v3 q q1 q2 q3 ?_
      have dd := cand_c (s := s) (t := t) (z := z) (how := how) d
      unfold overT ovX ovY at q4 ⊢
      rw [cc.2.2.1, cc.2.2.2.1, dd.2.2.1, dd.2.2.2.1, cand_n (by omega), cand_n (by omega), cand_n (by omega), cand_n (by omega)] at q4
      exact q4
end CONG
section STEP
variable {wi wj : List Nat} {wq : List (Nat × Nat)} {h h' : AH} {i la fr qa ac la' fr' qa' ac' : Nat}
theorem Inv.step (I : Inv h i la fr qa ac) (f : Gr wi wj wq h h') (hl : (la' = 5 ∧ fr' = 32) ∨ (la' = 32 ∧ fr' = 5)) (hf : aP h' 2 12 = some fr') (scn : Scn h' 31 la' (rd h' 94) (aJ h' 97)) (ga : GA (rd h' 94)) (z : Z24 h') (iT : IvT h') (iF : IvF h') (iJ : IvJ h') (iQ : IvQ h' qa' ac') (iA : IvA h') (iK : IvK h' qa' ac') (iW : IvW h') (iR : IvR h' (i + 1) qa' ac') : Inv h' (i + 1) la' fr' qa' ac' := by
  have hl0 := I.hl
  obtain ⟨c1, c2, c3, c4, c5, c6, c7, c8, -⟩ := I
  refine ⟨c1.gr f, c2.gr f, f.ob c3, (f.len c3.2).trans c4, hl, hf, ?_, scn, ga, z, iT, iF, iJ, iQ, iA, iK, iW, iR⟩
  have a := c7.gr f (by omega)
  have b := c8.2.1.gr f (by omega)
  have : fr' = la ∨ fr' = fr := by omega
  rcases this with e | e
  · rw [e]; exact b
  · rw [e]; exact a
theorem IvR.same (R : IvR h i qa ac) (Q : IvQ h qa ac) (f : Gr wi wj wq h h') (eN : aN h' = aN h) (eS : aS h' = aS h) : IvR h' (i + 1) qa ac := by
  unfold IvR at R ⊢
  rw [eN, eS, f.len Q.2.1.2, f.len Q.2.2.2.2.1.2]
  omega
end STEP
section MOVE
variable {h h1 h2 : AH} {i la fr qa ac : Nat} {post : AH → Int32 → Prop} {a b c d r x y n sp sq w hh u hr how one : Int}
/-- the model's number of act, as both tell it -/
noncomputable def movV (s : Int → Int) (r how hr : Int) : Int := iteP ((0 ≤ r ∧ r < s 2) ∧ (0 ≤ how ∧ how ≤ 4) ∧ 0 ≤ hr ∧ hr < 24) (whyT s (tS s) (zC s) r how hr) (-1)
theorem enc_nn {t z : Int → Int} (S : Spot t z r) : 0 ≤ enc t r ∧ enc t r < 128 := (enc_nums S).1
theorem cX_move (I : Inv h i la fr qa ac) (hr1 : -2147483648 ≤ r) (hr2 : r < 2147483648) (ho1 : -2147483648 ≤ how) (ho2 : how < 2147483648) (hh1 : -2147483648 ≤ hr) (hh2 : hr < 2147483648)
    (k0 : ∀ h', movV (rd h 94) r how hr = 0 → (0 ≤ r ∧ r < rd h 94 2) → Fr [54] [55] [] h h' → TR h' 53 la (rd h 94) (candT (rd h 94) (tS (rd h 94)) (zC (rd h 94)) r how) (zC (rd h 94)) → post h' (iI 0)) (k : movV (rd h 94) r how hr ≠ 0 → post h (iI (movV (rd h 94) r how hr))) : wp_X11_move h 0 (iI r) (iI how) (iI hr) post := by
  obtain ⟨S, M, hl, hp, H, L, T, hG, hZ⟩ := I.core
  have bd := hG.bd
  unfold wp_X11_move
  simp (disch := omega) only [CSh.o0 S, CSh.o1 S, CSh.o2 S, CSh.o3 S, CSh.o26 S, CSh.o27 S, CSh.o29 S, CSh.o30 S, CSh.o31 S, CSh.o56 S, CSh.o57 S, CSh.o58 S, CSh.o62 S, CSh.o66 S, CSh.o70 S, CSh.o74 S, CSh.o75 S, CSh.o77 S, CSh.o79 S, CSh.o80 S, CSh.o81 S, CSh.o82 S, CSh.o83 S, CSh.o84 S, CSh.o85 S, CSh.o86 S, CSh.o87 S, CSh.o88 S, CSh.o53 S, CSh.o54 S, CSh.o55 S, CSh.o59 S, CSh.o60 S, CSh.o61 S, CSh.o63 S, CSh.o64 S, CSh.o65 S, CSh.o67 S, CSh.o68 S, CSh.o69 S, CSh.o71 S, CSh.o72 S, CSh.o73 S, CSh.o89 S, CSh.o90 S, CSh.o91 S, CSh.l1 S, CSh.l3 S, CSh.l27 S, CSh.l29 S, CSh.l30 S, CSh.l56 S, CSh.l57 S, CSh.l58 S, CSh.l75 S, CSh.l77 S, CSh.l79 S, CSh.l81 S, CSh.l82 S, CSh.l83 S, CSh.l84 S, CSh.l85 S, CSh.l86 S, CSh.l87 S, CSh.l88 S, CSh.l54 S, CSh.l55 S, CSh.l60 S, CSh.l61 S, CSh.l64 S, CSh.l65 S, CSh.l68 S, CSh.l69 S, CSh.l72 S, CSh.l73 S, CSh.l90 S, CSh.l91 S, CSh.p0_0 S, CSh.p0_3 S, CSh.p0_4 S, CSh.p0_5 S, CSh.p0_6 S, CSh.p0_7 S, CSh.p0_8 S, CSh.p0_9 S, CSh.p0_10 S, CSh.p0_14 S, CSh.p2_0 S, CSh.p26_0 S, CSh.p26_13 S, CSh.p26_14 S, CSh.p31_1 S, CSh.p31_3 S, CSh.p31_4 S, CSh.p62_0 S, CSh.p66_0 S, CSh.p70_0 S, CSh.p74_0 S, CSh.p74_1 S, CSh.p74_6 S, CSh.p74_7 S, CSh.p74_10 S, CSh.p80_1 S, CSh.p80_2 S, CSh.p80_3 S, CSh.p80_4 S, CSh.p80_5 S, CSh.p80_6 S, CSh.p80_7 S, CSh.p80_8 S, CSh.p53_1 S, CSh.p53_2 S, CSh.p59_1 S, CSh.p59_2 S, CSh.p63_1 S, CSh.p63_2 S, CSh.p67_1 S, CSh.p67_2 S, CSh.p71_1 S, CSh.p71_2 S, CSh.p89_1 S, CSh.p89_2 S, hp, LB.o0 H, LB.p2 H, LB.o1 H, LB.l1 H, LB.p3 H, LB.o2 H, LB.l2 H, LB.p4 H, LB.o3 H, LB.l3 H, LB.p6 H, LB.o4 H, LB.l4 H, LB.p7 H, LB.o5 H, LB.l5 H, LB.p8 H, LB.o6 H, LB.l6 H, LB.p9 H, LB.o7 H, LB.l7 H, LB.p10 H, LB.o8 H, LB.l8 H, LB.p12 H, LB.o9 H, LB.l9 H, LB.p14 H, LB.o10 H, LB.p15 H, LB.o16 H, LB.q10_1 H, LB.o11 H, LB.l11 H, LB.q10_2 H, LB.o12 H, LB.l12 H, LB.q10_3 H, LB.o13 H, LB.l13 H, LB.q10_4 H, LB.o14 H, LB.l14 H, LB.q10_5 H, LB.o15 H, LB.l15 H, LB.q16_1 H, LB.o17 H, LB.l17 H, LB.q16_2 H, LB.o18 H, LB.l18 H, LB.q16_3 H, LB.o19 H, LB.l19 H, LB.q16_4 H, LB.o20 H, LB.l20 H, -Int.reduceToNat, -Int32.reduceToNatClampNeg, il0, il1, il2, il3, il4, il5, il6, il7, il8, il9, il10, il11, il12, il13, il14, il15, il16, il17, il18, il19, il20, il21, il22, il23, il24, il25, il26, il27, il28, il29, il30, il31, il32, il35, il36, il38, il40, il42, il43, il44, il45, il46, il47, il48, il49, il50, il51, il52, il57, il59, il60, il63, il64, il75, il80, il95, il96, il97, il98, il99, il100, il120, il122, il123, il127, il128, il135, il167, il175, il225, il249, il250, il255, il256, il360, il370, il384, il600, il700, il740, il900, il940, il1024, il1600, il4800, il64000, il125000, il262143, il1000000000, iI_toInt, iI_add, iI_sub, iI_mul, iI_neg, iI_lt, iI_le, iI_eq, iI_n, iI_in, iI_div, iI_mod, iI_shm, iI_and1, iI_and7, iI_and63, iI_shr3, iI_shr6, rd_I, ob, Option.some.injEq, exists_eq_left', exists_eq_left, true_and, and_true, fqI, fqJ, eq_self, true_or, or_true, bP_0, bP_0i, npP, bP_1i, bP_b, not_true_eq_false, not_false_eq_true, false_implies, true_implies, implies_true, Classical.not_not, and_self, cP, cP', ite_n, c_isRaft I, c_isHour]
  by_cases cc : (0 ≤ r ∧ r < rd h 94 2) ∧ (0 ≤ how ∧ how ≤ 4) ∧ 0 ≤ hr ∧ hr < 24
  case neg =>
    have e : movV (rd h 94) r how hr = -1 := by unfold movV; rw [ite_f cc]
    rw [e] at k
    have k' := k (by omega)
    by_cases c1 : 0 ≤ r ∧ r < rd h 94 2
    case neg => rw [ite_f c1]; exact k'
    rw [ite_t c1]
    by_cases c2 : how < 0
    · rw [ite_t c2]; exact k'
    rw [ite_f c2]
    by_cases c3 : 4 < how
    · rw [ite_t c3]; exact k'
    rw [ite_f c3, ite_f (by omega)]
    exact k'
  have e : movV (rd h 94) r how hr = whyT (rd h 94) (tS (rd h 94)) (zC (rd h 94)) r how hr := by unfold movV; rw [ite_t cc]
  obtain ⟨⟨r1, r2⟩, ⟨o1, o2⟩, t1, t2⟩ := cc
  rw [ite_t ⟨r1, r2⟩, ite_f (by omega), ite_f (by omega), ite_t ⟨t1, t2⟩, c_attempt H L T hG.1 (EZ.c _) hG.vt r1 r2 o1 o2 t1 t2]
  rw [e] at k0 k
  have wb := why_bd (s := rd h 94) (t := tS (rd h 94)) (z := zC (rd h 94)) (r := r) (how := how) (hr := hr)
  unfold attT
  by_cases c0 : whyT (rd h 94) (tS (rd h 94)) (zC (rd h 94)) r how hr = 0
  · obtain ⟨V', hS, hI⟩ := VT.cand hG.vt (hG.z1 r1 r2) bd.1.2 bd.2.1.2 r1 r2 c0
    have en := enc_nn hS
    rw [ite_t c0]
    obtain ⟨B, hp0, -⟩ := id T
    simp (disch := omega) only [CSh.o0 S, CSh.o1 S, CSh.o2 S, CSh.o3 S, CSh.o26 S, CSh.o27 S, CSh.o29 S, CSh.o30 S, CSh.o31 S, CSh.o56 S, CSh.o57 S, CSh.o58 S, CSh.o62 S, CSh.o66 S, CSh.o70 S, CSh.o74 S, CSh.o75 S, CSh.o77 S, CSh.o79 S, CSh.o80 S, CSh.o81 S, CSh.o82 S, CSh.o83 S, CSh.o84 S, CSh.o85 S, CSh.o86 S, CSh.o87 S, CSh.o88 S, CSh.o53 S, CSh.o54 S, CSh.o55 S, CSh.o59 S, CSh.o60 S, CSh.o61 S, CSh.o63 S, CSh.o64 S, CSh.o65 S, CSh.o67 S, CSh.o68 S, CSh.o69 S, CSh.o71 S, CSh.o72 S, CSh.o73 S, CSh.o89 S, CSh.o90 S, CSh.o91 S, CSh.l1 S, CSh.l3 S, CSh.l27 S, CSh.l29 S, CSh.l30 S, CSh.l56 S, CSh.l57 S, CSh.l58 S, CSh.l75 S, CSh.l77 S, CSh.l79 S, CSh.l81 S, CSh.l82 S, CSh.l83 S, CSh.l84 S, CSh.l85 S, CSh.l86 S, CSh.l87 S, CSh.l88 S, CSh.l54 S, CSh.l55 S, CSh.l60 S, CSh.l61 S, CSh.l64 S, CSh.l65 S, CSh.l68 S, CSh.l69 S, CSh.l72 S, CSh.l73 S, CSh.l90 S, CSh.l91 S, CSh.p0_0 S, CSh.p0_3 S, CSh.p0_4 S, CSh.p0_5 S, CSh.p0_6 S, CSh.p0_7 S, CSh.p0_8 S, CSh.p0_9 S, CSh.p0_10 S, CSh.p0_14 S, CSh.p2_0 S, CSh.p26_0 S, CSh.p26_13 S, CSh.p26_14 S, CSh.p31_1 S, CSh.p31_3 S, CSh.p31_4 S, CSh.p62_0 S, CSh.p66_0 S, CSh.p70_0 S, CSh.p74_0 S, CSh.p74_1 S, CSh.p74_6 S, CSh.p74_7 S, CSh.p74_10 S, CSh.p80_1 S, CSh.p80_2 S, CSh.p80_3 S, CSh.p80_4 S, CSh.p80_5 S, CSh.p80_6 S, CSh.p80_7 S, CSh.p80_8 S, CSh.p53_1 S, CSh.p53_2 S, CSh.p59_1 S, CSh.p59_2 S, CSh.p63_1 S, CSh.p63_2 S, CSh.p67_1 S, CSh.p67_2 S, CSh.p71_1 S, CSh.p71_2 S, CSh.p89_1 S, CSh.p89_2 S, hp, -Int.reduceToNat, -Int32.reduceToNatClampNeg, il0, il1, il2, il3, il4, il5, il6, il7, il8, il9, il10, il11, il12, il13, il14, il15, il16, il17, il18, il19, il20, il21, il22, il23, il24, il25, il26, il27, il28, il29, il30, il31, il32, il35, il36, il38, il40, il42, il43, il44, il45, il46, il47, il48, il49, il50, il51, il52, il57, il59, il60, il63, il64, il75, il80, il95, il96, il97, il98, il99, il100, il120, il122, il123, il127, il128, il135, il167, il175, il225, il249, il250, il255, il256, il360, il370, il384, il600, il700, il740, il900, il940, il1024, il1600, il4800, il64000, il125000, il262143, il1000000000, iI_toInt, iI_add, iI_sub, iI_mul, iI_neg, iI_lt, iI_le, iI_eq, iI_n, iI_in, iI_div, iI_mod, iI_shm, iI_and1, iI_and7, iI_and63, iI_shr3, iI_shr6, rd_I, ob, Option.some.injEq, exists_eq_left', exists_eq_left, true_and, and_true, fqI, fqJ, eq_self, true_or, or_true, bP_0, bP_0i, npP, bP_1i, bP_b, not_true_eq_false, not_false_eq_true, false_implies, true_implies, implies_true, Classical.not_not, and_self, cP, cP', ite_n, ite_T, ite_F, ite_t, ite_f]
    refine c_put H L B hp0 (by unfold LD; omega) hG.sd bd.2.2.1.2 r1 r2 en.1 en.2 fun h' f es ej => ?_
    exact k0 h' c0 ⟨r1, r2⟩ f (TR.put T f (EZ.c _) hG.sd bd.2.2.1.2 r1 r2 (fun j hj => cand_n hj) hS hI es ej)
  · rw [ite_f c0]
    simp (disch := omega) only [-Int.reduceToNat, -Int32.reduceToNatClampNeg, il0, il1, il2, il3, il4, il5, il6, il7, il8, il9, il10, il11, il12, il13, il14, il15, il16, il17, il18, il19, il20, il21, il22, il23, il24, il25, il26, il27, il28, il29, il30, il31, il32, il35, il36, il38, il40, il42, il43, il44, il45, il46, il47, il48, il49, il50, il51, il52, il57, il59, il60, il63, il64, il75, il80, il95, il96, il97, il98, il99, il100, il120, il122, il123, il127, il128, il135, il167, il175, il225, il249, il250, il255, il256, il360, il370, il384, il600, il700, il740, il900, il940, il1024, il1600, il4800, il64000, il125000, il262143, il1000000000, iI_toInt, iI_add, iI_sub, iI_mul, iI_neg, iI_lt, iI_le, iI_eq, iI_n, iI_in, iI_div, iI_mod, iI_shm, iI_and1, iI_and7, iI_and63, iI_shr3, iI_shr6, rd_I, ob, Option.some.injEq, exists_eq_left', exists_eq_left, true_and, and_true, fqI, fqJ, eq_self, true_or, or_true, bP_0, bP_0i, npP, bP_1i, bP_b, not_true_eq_false, not_false_eq_true, false_implies, true_implies, implies_true, Classical.not_not, and_self, cP, cP', ite_n, ite_T, ite_F, ite_t, ite_f, Int.neg_neg]
    exact k c0
theorem mX_move (M : MSh h) (Z : Z24 h) (hG : GA (rd h 94)) (hr1 : -2147483648 ≤ r) (hr2 : r < 2147483648) (ho1 : -2147483648 ≤ how) (ho2 : how < 2147483648) (hh1 : -2147483648 ≤ hr) (hh2 : hr < 2147483648)
    (k0 : ∀ h', movV (rd h 94) r how hr = 0 → Fr [92, 94, 99, 100] [] [] h h' → (∀ j, j ∈ QW → rd h' 92 j = rd h 92 j) → Z24 h' → (∀ i, i < 225 ∨ 249 ≤ i → rd h' 94 i = rd h 94 i) → tS (rd h' 94) = candT (rd h 94) (tS (rd h 94)) (zC (rd h 94)) r how → post h' (iI 0))
    (k : ∀ h', movV (rd h 94) r how hr ≠ 0 → Qt h h' → post h' (iI (movV (rd h 94) r how hr))) : wp_X12_move h 92 (iI r) (iI how) (iI hr) post := by
  unfold wp_X12_move
  refine ⟨M.o0, fun h1 e1 => ?_⟩
  have f1 : Fr [92] [] [] h h1 := e1 ▸ fr_hI
  have r1 := (wI (i := 0) (v := 0) (by omega) (by omega) (by omega) e1).2
  have q1 : Qt h h1 := ⟨f1.mono (by simp) (by simp) (by simp), fun j hj => by
    rw [r1, updT_n]
    intro c
    rw [c] at hj
    exact absurd hj (by decide), by
    unfold Z24 at Z ⊢
    rw [f1.row (by decide), f1.row (by decide)]
    exact Z⟩
  have es : rd h1 94 = rd h 94 := f1.row (by decide)
  have M1 := M.fr f1
  rw [← es] at k0 k hG
  have bd := hG.bd
  simp (disch := omega) only [MSh.o0 M1, MSh.p1 M1, MSh.o1 M1, MSh.l1 M1, MSh.p6 M1, MSh.o2 M1, MSh.l2 M1, MSh.p7 M1, MSh.o3 M1, MSh.l3 M1, MSh.p8 M1, MSh.o4 M1, MSh.l4 M1, MSh.p9 M1, MSh.o5 M1, MSh.l5 M1, MSh.p10 M1, MSh.o6 M1, MSh.l6 M1, MSh.p24 M1, MSh.o7 M1, MSh.l7 M1, MSh.p25 M1, MSh.o8 M1, MSh.l8 M1, MSh.p26 M1, MSh.o9 M1, MSh.l9 M1, MSh.p32 M1, MSh.o10 M1, MSh.l10 M1, MSh.p33 M1, MSh.o11 M1, MSh.l11 M1, MSh.p35 M1, MSh.o12 M1, MSh.l12 M1, MSh.p36 M1, MSh.o13 M1, MSh.l13 M1, MSh.p37 M1, MSh.o14 M1, MSh.l14 M1, MSh.p38 M1, MSh.o15 M1, MSh.l15 M1, MSh.p39 M1, MSh.o16 M1, MSh.l16 M1, MSh.p42 M1, MSh.o17 M1, MSh.l17 M1, MSh.p43 M1, MSh.o18 M1, MSh.l18 M1, MSh.p44 M1, MSh.o19 M1, MSh.l19 M1, MSh.p45 M1, MSh.o20 M1, MSh.l20 M1, MSh.p46 M1, MSh.o21 M1, MSh.l21 M1, MSh.p47 M1, MSh.o22 M1, MSh.l22 M1, MSh.p50 M1, MSh.o23 M1, MSh.l23 M1, MSh.p51 M1, MSh.o24 M1, MSh.l24 M1, MSh.p52 M1, MSh.o25 M1, MSh.l25 M1, -Int.reduceToNat, -Int32.reduceToNatClampNeg, il0, il1, il2, il3, il4, il5, il6, il7, il8, il9, il10, il11, il12, il13, il14, il15, il16, il17, il18, il19, il20, il21, il22, il23, il24, il25, il26, il27, il28, il29, il30, il31, il32, il35, il36, il38, il40, il42, il43, il44, il45, il46, il47, il48, il49, il50, il51, il52, il57, il59, il60, il63, il64, il75, il80, il95, il96, il97, il98, il99, il100, il120, il122, il123, il127, il128, il135, il167, il175, il225, il249, il250, il255, il256, il360, il370, il384, il600, il700, il740, il900, il940, il1024, il1600, il4800, il64000, il125000, il262143, il1000000000, iI_toInt, iI_add, iI_sub, iI_mul, iI_neg, iI_lt, iI_le, iI_eq, iI_n, iI_in, iI_div, iI_mod, iI_shm, iI_and1, iI_and7, iI_and63, iI_shr3, iI_shr6, rd_I, ob, Option.some.injEq, exists_eq_left', exists_eq_left, true_and, and_true, fqI, fqJ, eq_self, true_or, or_true, bP_0, bP_0i, npP, bP_1i, bP_b, not_true_eq_false, not_false_eq_true, false_implies, true_implies, implies_true, Classical.not_not, and_self, cP, cP', ite_n, m_isRaft M1, m_isIn, m_isHour]
  by_cases cc : (0 ≤ r ∧ r < rd h1 94 2) ∧ (0 ≤ how ∧ how ≤ 4) ∧ 0 ≤ hr ∧ hr < 24
  case neg =>
    have e : movV (rd h1 94) r how hr = -1 := by unfold movV; rw [ite_f cc]
    rw [e] at k
    have k' := k h1 (by omega) q1
    by_cases c1 : 0 ≤ r ∧ r < rd h1 94 2
    case neg => rw [ite_f c1]; exact k'
    rw [ite_t c1]
    by_cases c2 : 0 ≤ how ∧ how ≤ 4
    case neg => rw [ite_f c2]; exact k'
    rw [ite_t c2, ite_f (by omega)]
    exact k'
  have e : movV (rd h1 94) r how hr = whyT (rd h1 94) (tS (rd h1 94)) (zC (rd h1 94)) r how hr := by unfold movV; rw [ite_t cc]
  obtain ⟨⟨r1', r2'⟩, ⟨o1, o2⟩, t1, t2⟩ := cc
  rw [ite_t ⟨r1', r2'⟩, ite_t ⟨o1, o2⟩, ite_t ⟨t1, t2⟩]
  rw [e] at k0 k
  refine m_asIt M1 q1.2.2 fun h2 f2 e99 e100 => ?_
  have e94 : rd h2 94 = rd h1 94 := f2.row (by decide)
  have e92 : rd h2 92 = rd h1 92 := f2.row (by decide)
  have M2 := M1.fr f2
  refine ⟨M2.o0, ?_⟩
  have z2 : Z24 h2 := by
    unfold Z24
    rw [e99, e100]
    exact ⟨fun i hi => if_neg (by omega), fun i hi => if_neg (by omega)⟩
  have q2 : Qt h1 h2 := ⟨f2.mono (by simp) (by simp) (by simp), fun j _ => by rw [e92], z2⟩
  have zz : ∀ j, 24 ≤ j → candT (rd h1 94) (tS (rd h1 94)) (zC (rd h1 94)) r how j = 0 := fun j hj => by
    rw [cand_n (by omega)]
    exact if_neg (by omega)
  refine m_moves M2 (by rw [e94]; exact hG.1.1) r1' (by rw [e94]; exact r2') o1 o2 t1 t2 (fun o p1 p2 => by rw [e99]; rw [e94] at p2; exact (hG.vt o p1 p2).1.P1) (fun o p1 p2 => by rw [e100]; rw [e94] at p2; exact hG.z1 p1 p2) (by rw [e99, e100]; exact hG.i8 r1' r2') (fun h3 w0 f3 e3 => ?_) (fun h3 w0 f3 e3 => ?_)
  · rw [e94, e99, e100] at w0 e3
    simp (disch := omega) only [-Int.reduceToNat, -Int32.reduceToNatClampNeg, il0, il1, il2, il3, il4, il5, il6, il7, il8, il9, il10, il11, il12, il13, il14, il15, il16, il17, il18, il19, il20, il21, il22, il23, il24, il25, il26, il27, il28, il29, il30, il31, il32, il35, il36, il38, il40, il42, il43, il44, il45, il46, il47, il48, il49, il50, il51, il52, il57, il59, il60, il63, il64, il75, il80, il95, il96, il97, il98, il99, il100, il120, il122, il123, il127, il128, il135, il167, il175, il225, il249, il250, il255, il256, il360, il370, il384, il600, il700, il740, il900, il940, il1024, il1600, il4800, il64000, il125000, il262143, il1000000000, iI_toInt, iI_add, iI_sub, iI_mul, iI_neg, iI_lt, iI_le, iI_eq, iI_n, iI_in, iI_div, iI_mod, iI_shm, iI_and1, iI_and7, iI_and63, iI_shr3, iI_shr6, rd_I, ob, Option.some.injEq, exists_eq_left', exists_eq_left, true_and, and_true, fqI, fqJ, eq_self, true_or, or_true, bP_0, bP_0i, npP, bP_1i, bP_b, not_true_eq_false, not_false_eq_true, false_implies, true_implies, implies_true, Classical.not_not, and_self, cP, cP', ite_n, ite_T, ite_F, ite_t, ite_f]
    have M3 := M2.fr f3
    refine ⟨M3.o0, m_keepTown M3 fun h4 f4 e4 e4' => ?_⟩
    have a94 : rd h3 94 = rd h1 94 := by rw [f3.row (by decide), e94]
    refine k0 h4 w0 ?_ (fun j hj => ?_) ?_ (fun i hi => ?_) (funext fun i => ?_)
    · exact (f1.mono (by simp) (by simp) (by simp)).trans ((f2.mono (by simp) (by simp) (by simp)).trans ((f3.mono (by simp) (by simp) (by simp)).trans (f4.mono (by simp) (by simp) (by simp))))
    · rw [f4.row (by decide), f3.row (by decide), e92, q1.2.1 j hj]
    · unfold Z24
      rw [f4.row (by decide), f4.row (by decide), e3, f3.row (by decide), e100]
      exact ⟨zz, fun i hi => if_neg (by omega)⟩
    · rw [e4' i hi, a94, es]
    · show (if 0 ≤ i ∧ i < 24 then rd h4 94 (225 + i) else 0) = _
      by_cases c : 0 ≤ i ∧ i < 24
      · rw [if_pos c, e4 i c.1 c.2, e3]
      · rw [if_neg c]
        have : candT (rd h1 94) (tS (rd h1 94)) (zC (rd h1 94)) r how i = 0 := by
          rw [cand_n (by omega)]
          exact if_neg c
        exact this.symm
  · rw [e94, e99, e100] at w0 ⊢
    have wb := why_bd (s := rd h1 94) (t := tS (rd h1 94)) (z := zC (rd h1 94)) (r := r) (how := how) (hr := hr)
    simp (disch := omega) only [-Int.reduceToNat, -Int32.reduceToNatClampNeg, il0, il1, il2, il3, il4, il5, il6, il7, il8, il9, il10, il11, il12, il13, il14, il15, il16, il17, il18, il19, il20, il21, il22, il23, il24, il25, il26, il27, il28, il29, il30, il31, il32, il35, il36, il38, il40, il42, il43, il44, il45, il46, il47, il48, il49, il50, il51, il52, il57, il59, il60, il63, il64, il75, il80, il95, il96, il97, il98, il99, il100, il120, il122, il123, il127, il128, il135, il167, il175, il225, il249, il250, il255, il256, il360, il370, il384, il600, il700, il740, il900, il940, il1024, il1600, il4800, il64000, il125000, il262143, il1000000000, iI_toInt, iI_add, iI_sub, iI_mul, iI_neg, iI_lt, iI_le, iI_eq, iI_n, iI_in, iI_div, iI_mod, iI_shm, iI_and1, iI_and7, iI_and63, iI_shr3, iI_shr6, rd_I, ob, Option.some.injEq, exists_eq_left', exists_eq_left, true_and, and_true, fqI, fqJ, eq_self, true_or, or_true, bP_0, bP_0i, npP, bP_1i, bP_b, not_true_eq_false, not_false_eq_true, false_implies, true_implies, implies_true, Classical.not_not, and_self, cP, cP', ite_n, ite_T, ite_F, ite_t, ite_f]
    refine k h3 w0 (q1.trans (q2.trans ⟨f3.mono (by simp) (by simp) (by simp), fun j _ => by rw [f3.row (by decide)], ?_⟩))
    unfold Z24
    rw [e3, f3.row (by decide)]
    exact z2
/-- a town set anew in both: what stays -/
theorem Inv.town (I : Inv h i la fr qa ac) {wi wj : List Nat} (f : Fr wi wj [] h h2) (hwi : ∀ a, a ∈ wi → a ∈ [54, 92, 94, 99, 100]) (hwj : ∀ a, a ∈ wj → a ∈ [55]) (eq : ∀ j, j ∈ QW → rd h2 92 j = rd h 92 j) (z : Z24 h2) (es : ∀ i, i < 225 ∨ 249 ≤ i → rd h2 94 i = rd h 94 i)
    (T' : TR h2 53 la (rd h 94) (tS (rd h2 94)) (zC (rd h 94))) (V' : VT (rd h 94) (tS (rd h2 94)) (zC (rd h 94))) (eo : ∀ j, 3 * rd h 94 2 ≤ j → j < 24 → tS (rd h2 94) j = tS (rd h 94) j) : Inv h2 (i + 1) la fr qa ac := by
  have hl := I.hl
  have g : Gr [54, 92, 94, 99, 100] [55] [] h h2 := f.gr.mono hwi hwj (fun a q => q) (fun a q => absurd q List.not_mem_nil)
  have lt := fun (a : Nat) (ha : a ≤ 118) => I.lt ha
  have I0 := I
  obtain ⟨c1, c2, c3, c4, c5, c6, c7, c8, c9, c10, c11, c12, c13, c14, c15, c16, c17, c18⟩ := I
  have e225 : ∀ i, 0 ≤ i → i < 225 → rd h2 94 i = rd h 94 i := fun i _ hi => es i (Or.inl hi)
  have e2 := e225 2 (by omega) (by omega)
  have bd := c9.bd
  obtain ⟨hGS, hWL, hSq, ⟨hP1, hP2⟩, hFit, hVT⟩ := id c9
  have hB : SBd (rd h2 94) := by
    intro j j1 j2
    by_cases c : j < 225 ∨ 249 ≤ j
    · rw [es j c]; exact hGS.1.1 j j1 j2
    · have a : rd h2 94 j = tS (rd h2 94) (j - 225) := by
        rw [tS_i (by omega) (by omega)]
        congr 1
        omega
      rw [a]
      by_cases cr : (j - 225) / 3 < rd h 94 2
      · have sp := (V' ((j - 225) / 3) (by omega) cr).1
        obtain ⟨s1, s2, s3, -⟩ := sp
        by_cases m0 : (j - 225) % 3 = 0
        · rw [show j - 225 = 3 * ((j - 225) / 3) by omega]; omega
        · by_cases m1 : (j - 225) % 3 = 1
          · rw [show j - 225 = 3 * ((j - 225) / 3) + 1 by omega]; omega
          · rw [show j - 225 = 3 * ((j - 225) / 3) + 2 by omega]; omega
      · rw [eo _ (by omega) (by omega), tS_i (by omega) (by omega)]
        exact hGS.1.1 _ (by omega) (by omega)
  have ga : GA (rd h2 94) := by
    obtain ⟨g1, g2, g3, g4⟩ := GL.cg e225 hB ⟨hGS, hWL, hSq, hFit⟩
    refine ⟨g1, g2, g3, ⟨?_, fun i i1 i2 => ?_⟩, g4, VT.cg (e225 0 (by omega) (by omega)) (e225 1 (by omega) (by omega)) e2 (zC_c e225) V'⟩
    · rw [es 249 (by omega)]; exact hP1
    · rw [es 249 (by omega)] at i2
      rw [es (250 + 2 * i) (by omega), es (250 + 2 * i + 1) (by omega), e2]; exact hP2 i i1 i2
  have j97 : aJ h2 97 = aJ h 97 := g.jow (lt 97 (by omega)) (by decide)
  refine I0.step g hl ((g.dyn (lt 2 (by omega)) (by decide)).trans c6) ?_ ga z (c11.gr ?_ (eq _ (by decide)) ?_ ?_) (c12.gr ?_ (eq _ (by decide))) (c13.gr ?_ ?_ ?_ (eq _ (by decide)) ?_ ?_ ?_ ?_) (c14.gr g c1 (by decide) (by decide) ?_ (eq _ (by decide)) ?_ ?_) (c15.gr (eq _ (by decide)) (eq _ (by decide)) ?_ ?_ ?_ ?_) (c16.gr g c1 (by decide) (by decide) ?_ ?_ ?_ ?_ ⟨Or.inl rfl, Or.inl rfl⟩) (c17.gr ?_ ?_ ?_) (c18.same c14 g f.1 f.2.1)
  · obtain ⟨⟨o0, p0, p1, tb, p3, o25, l25, p4, o26, l26⟩, H, L, N, T, P1, P2⟩ := c8
    refine ⟨⟨g.ob o0, (g.dyn o0.2 (by decide)).trans p0, (g.ptr o0.2 (by decide)).trans p1, tb.gr g (by intro k hk; unfold DynP; simp [hk]), (g.ptr o0.2 (by decide)).trans p3, g.ob o25, (g.len o25.2).trans l25, (g.ptr o0.2 (by decide)).trans p4, g.ob o26, (g.len o26.2).trans l26⟩, H.gr g (by omega), LR.cg hGS.1 e225 (L.grw H g (fun j hj => by simp; omega) (fun j hj => by simp; omega)), fun r r1 r2 => ?_, TR.cg e2 rfl (zC_c e225) T', ?_, fun i i1 i2 => ?_⟩
    · rw [g.row (H.o4).2 (by simp; omega), j97]; rw [e2] at r2; exact N r r1 r2
    · rw [g.row o0.2 (by decide), es 249 (by omega)]; exact P1
    · rw [es 249 (by omega)] at i2
      rw [g.row o25.2 (by decide), g.row o26.2 (by decide), es (250 + 2 * i) (by omega), es (250 + 2 * i + 1) (by omega)]; exact P2 i i1 i2
  all_goals first | (rw [g.row (lt _ (by decide)) (by decide)]; done) | exact g.row (lt _ (by decide)) (by decide) | exact g.jow (lt _ (by decide)) (by decide) | skip
  · obtain ⟨q1, q2, q3, q4, q5, q6, q7, q8, q9, q10, q11⟩ := c14
    simp
    omega
  · refine ⟨fun a ha => ?_, fun a ha => ?_⟩
    · simp at ha; omega
    · simp at ha; omega
end MOVE
