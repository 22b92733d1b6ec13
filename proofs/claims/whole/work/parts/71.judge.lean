/-! JUDGE, TOOMANY, INSTEAD -/
def J0 (s : Int → Int) : JS := (tS s, (0, 0, -1), 0)
theorem J0_I {s : Int → Int} (hG : GA s) : JI s 0 (J0 s) := ⟨hG.vt, ⟨⟨Int.le_refl _, Int.le_refl _⟩, ⟨Int.le_refl _, Int.le_refl _⟩, ⟨Int.le_refl _, by show (-1 : Int) ≤ 0; omega⟩, by show (0 : Int) = 0 ↔ (-1 : Int) = -1; omega⟩, rfl, fun j hj => if_neg (by omega), fun j _ => rfl⟩
section JUDGE
variable {h h1 h2 h' : AH} {i la fr qa ac tr t2 : Nat} {postV : AH → Prop} {post : AH → Int32 → Prop} {a b c d r x y n sp sq w hh u hr how who one k f q : Int} {s t z T : Int → Int} {J : JS} {v : Int × Int × Int}
theorem c_beginT (C : CC h la s) (hT : TRi tr) (hG : GA s) (T : TR h 53 la s (tS s) (zC s)) (hq : 0 ≤ q ∧ q < 96)
    (k : ∀ h', Gr [tr, tr + 2] [tr + 3] [(tr + 1, 0)] h h' → aN h' = aN h → aS h' = aS h → TrR h' tr la s q (J0 s) → postV h') : wp_X9_begin h tr la 53 (iI q) postV := by
  obtain ⟨S, hl, hp, H, L, P⟩ := C
  obtain ⟨o1, o2, o3⟩ := tr_o S hT
  have bd := hG.bd
  have dy : (tr + 1, 0) ∈ DynP := by rcases hT with rfl | rfl | rfl <;> decide
  unfold wp_X9_begin
  refine ⟨o1, tr + 1, o2, o3.o0, ?_⟩
  refine c_follow o3 S.t53 (by rcases hT with rfl | rfl | rfl <;> decide) fun ha fa pa pj ra ja => ?_
  have ga : Gr [tr, tr + 2] [tr + 3] [(tr + 1, 0)] h ha := (fa.gr1 dy pj).mono (by simp) (by simp) (by simp) (fun p q => by rw [List.mem_singleton.mp q]; exact dy)
  have Oa : ob ha tr 8 := ga.ob o1
  refine ⟨Oa, fun hb eb => ?_⟩
  obtain ⟨fb, rb⟩ := wI (i := 1) (v := q) (by omega) (by omega) (by omega) eb
  have Ob : ob hb tr 8 := fb.gr.ob Oa
  refine ⟨Ob, fun hc ec => ?_⟩
  obtain ⟨fc, rc⟩ := wI (i := 2) (v := 0) (by omega) (by omega) (by omega) ec
  have Oc : ob hc tr 8 := fc.gr.ob Ob
  refine ⟨Oc, fun hd ed => ?_⟩
  obtain ⟨fd, rd'⟩ := wI (i := 3) (v := 0) (by omega) (by omega) (by omega) ed
  have Od : ob hd tr 8 := fd.gr.ob Oc
  refine ⟨Od, fun he ee => ?_⟩
  obtain ⟨fe, re⟩ := wI (i := 4) (v := 0) (by omega) (by omega) (by omega) ee
  have Oe : ob he tr 8 := fe.gr.ob Od
  refine ⟨Oe, fun hf ef => ?_⟩
  obtain ⟨ff, rf⟩ := wI (i := 5) (v := -1) (by omega) (by omega) (by omega) ef
  have F : Fr [tr] [] [] ha hf := fb.trans (fc.trans (fd.trans (fe.trans ff)))
  refine k hf (ga.trans (F.gr.mono (by simp) (by simp) (by simp) (fun p q => by rw [List.mem_singleton.mp q]; exact dy))) (by rw [F.1, fa.1]) (by rw [F.2.1, fa.2.1]) ⟨?_, ?_, ?_, ?_, ?_, ?_⟩
  · rw [rf, updT_n (by omega), re, updT_n (by omega), rd', updT_n (by omega), rc, updT_n (by omega), rb, updT_s]
  · rw [rf, updT_n (by omega), re, updT_n (by omega), rd', updT_n (by omega), rc, updT_s]; rfl
  · rw [rf, updT_n (by omega), re, updT_n (by omega), rd', updT_s]; rfl
  · rw [rf, updT_n (by omega), re, updT_s]; rfl
  · rw [rf, updT_s]; rfl
  · obtain ⟨B, p, q1, q2⟩ := T
    have dk : ∀ k, k ≠ 0 → (tr + 1, k) ∉ DynP := by
      rcases hT with rfl | rfl | rfl <;> (intro k hk; unfold DynP; simp [hk])
    have Ba := o3.gr ga dk
    refine ⟨Ba.gr F.gr dk, by rw [F.2.2.2.2.2.2 _ List.not_mem_nil]; exact pa, fun r r1 r2 => ?_, fun r r1 r2 x y x1 x2 y1 y2 => ?_⟩
    · rw [F.row (by simp; omega), ra r r1 (by omega)]; exact q1 r r1 r2
    · rw [F.2.2.2.2.2.1 _ List.not_mem_nil, ja r r1 (by omega)]; exact q2 r r1 r2 x y x1 x2 y1 y2
theorem c_followT (C : CC h la s) (R : TrR h 66 la s q J) (hG : GA s)
    (k : ∀ h', Gr [70, 72] [73] [(71, 0)] h h' → aN h' = aN h → aS h' = aS h → TrR h' 70 la s q J → TrR h' 66 la s q J → postV h') : wp_X9_follow h 70 66 postV := by
  obtain ⟨S, hl, hp, H, L, P⟩ := C
  have bd := hG.bd
  obtain ⟨e1, e2, e3, e4, e5, B, p, q1, q2⟩ := R
  have p' : aP h 67 0 = some la := p
  unfold wp_X9_follow
  simp (disch := omega) only [CSh.o0 S, CSh.o1 S, CSh.o2 S, CSh.o3 S, CSh.o26 S, CSh.o27 S, CSh.o29 S, CSh.o30 S, CSh.o31 S, CSh.o56 S, CSh.o57 S, CSh.o58 S, CSh.o62 S, CSh.o66 S, CSh.o70 S, CSh.o74 S, CSh.o75 S, CSh.o77 S, CSh.o79 S, CSh.o80 S, CSh.o81 S, CSh.o82 S, CSh.o83 S, CSh.o84 S, CSh.o85 S, CSh.o86 S, CSh.o87 S, CSh.o88 S, CSh.o53 S, CSh.o54 S, CSh.o55 S, CSh.o59 S, CSh.o60 S, CSh.o61 S, CSh.o63 S, CSh.o64 S, CSh.o65 S, CSh.o67 S, CSh.o68 S, CSh.o69 S, CSh.o71 S, CSh.o72 S, CSh.o73 S, CSh.o89 S, CSh.o90 S, CSh.o91 S, CSh.l1 S, CSh.l3 S, CSh.l27 S, CSh.l29 S, CSh.l30 S, CSh.l56 S, CSh.l57 S, CSh.l58 S, CSh.l75 S, CSh.l77 S, CSh.l79 S, CSh.l81 S, CSh.l82 S, CSh.l83 S, CSh.l84 S, CSh.l85 S, CSh.l86 S, CSh.l87 S, CSh.l88 S, CSh.l54 S, CSh.l55 S, CSh.l60 S, CSh.l61 S, CSh.l64 S, CSh.l65 S, CSh.l68 S, CSh.l69 S, CSh.l72 S, CSh.l73 S, CSh.l90 S, CSh.l91 S, CSh.p0_0 S, CSh.p0_3 S, CSh.p0_4 S, CSh.p0_5 S, CSh.p0_6 S, CSh.p0_7 S, CSh.p0_8 S, CSh.p0_9 S, CSh.p0_10 S, CSh.p0_14 S, CSh.p2_0 S, CSh.p26_0 S, CSh.p26_13 S, CSh.p26_14 S, CSh.p31_1 S, CSh.p31_3 S, CSh.p31_4 S, CSh.p62_0 S, CSh.p66_0 S, CSh.p70_0 S, CSh.p74_0 S, CSh.p74_1 S, CSh.p74_6 S, CSh.p74_7 S, CSh.p74_10 S, CSh.p80_1 S, CSh.p80_2 S, CSh.p80_3 S, CSh.p80_4 S, CSh.p80_5 S, CSh.p80_6 S, CSh.p80_7 S, CSh.p80_8 S, CSh.p53_1 S, CSh.p53_2 S, CSh.p59_1 S, CSh.p59_2 S, CSh.p63_1 S, CSh.p63_2 S, CSh.p67_1 S, CSh.p67_2 S, CSh.p71_1 S, CSh.p71_2 S, CSh.p89_1 S, CSh.p89_2 S, p', -Int.reduceToNat, -Int32.reduceToNatClampNeg, il0, il1, il2, il3, il4, il5, il6, il7, il8, il9, il10, il11, il12, il13, il14, il15, il16, il17, il18, il19, il20, il21, il22, il23, il24, il25, il26, il27, il28, il29, il30, il31, il32, il35, il36, il38, il40, il42, il43, il44, il45, il46, il47, il48, il49, il50, il51, il52, il57, il59, il60, il63, il64, il75, il80, il95, il96, il97, il98, il99, il100, il120, il122, il123, il127, il128, il135, il167, il175, il225, il249, il250, il255, il256, il360, il370, il384, il600, il700, il740, il900, il940, il1024, il1600, il4800, il64000, il125000, il262143, il1000000000, ob, Option.some.injEq, exists_eq_left', exists_eq_left, true_and, and_true, fqI, fqJ, eq_self, true_or, or_true, bP_0, bP_0i, npP, bP_1i, bP_b, not_true_eq_false, not_false_eq_true, false_implies, true_implies, implies_true, Classical.not_not, and_self]
  refine c_follow S.t71 S.t67 (by decide) fun ha fa pa pj ra ja => ?_
  have ga : Gr [70, 72] [73] [(71, 0)] h ha := (fa.gr1 (by decide) pj).mono (by simp) (by simp) (by simp) (by simp [DynP])
  have Sa := S.gr ga
  have r66 : rd ha 66 = rd h 66 := fa.row (by decide)
  have r66b : ∀ (g : AH), Fr [70] [] [] ha g → rd g 66 = rd h 66 := fun g f => by rw [f.row (by decide), r66]
  have bb := fun (j : Int) => rd_bd h 66 j
  refine ⟨Sa.o66, Sa.o70, fun hb eb => ?_⟩
  rw [fd1, r66] at eb
  obtain ⟨fb, rb⟩ := wI (i := 1) (by omega) (bb 1).1 (bb 1).2 eb
  have Sb := Sa.gr fb.gr
  refine ⟨Sb.o66, Sb.o70, fun hc ec => ?_⟩
  rw [fd2, r66b hb fb] at ec
  obtain ⟨fc, rc⟩ := wI (i := 2) (by omega) (bb 2).1 (bb 2).2 ec
  have Sc := Sb.gr fc.gr
  refine ⟨Sc.o66, Sc.o70, fun hd ed => ?_⟩
  rw [fd3, r66b hc (fb.trans fc)] at ed
  obtain ⟨fd, rd'⟩ := wI (i := 3) (by omega) (bb 3).1 (bb 3).2 ed
  have Sd := Sc.gr fd.gr
  refine ⟨Sd.o66, Sd.o70, fun he ee => ?_⟩
  rw [fd4, r66b hd (fb.trans (fc.trans fd))] at ee
  obtain ⟨fe, re⟩ := wI (i := 4) (by omega) (bb 4).1 (bb 4).2 ee
  have Se := Sd.gr fe.gr
  refine ⟨Se.o66, Se.o70, fun hf ef => ?_⟩
  rw [fd5, r66b he (fb.trans (fc.trans (fd.trans fe)))] at ef
  obtain ⟨ff, rf⟩ := wI (i := 5) (by omega) (bb 5).1 (bb 5).2 ef
  have F : Fr [70] [] [] ha hf := fb.trans (fc.trans (fd.trans (fe.trans ff)))
  have G := ga.trans (F.gr.mono (wi' := [70, 72]) (wj' := [73]) (wq' := [(71, 0)]) (by simp) (by simp) (by simp) (by simp [DynP]))
  refine k hf G (by rw [F.1, fa.1]) (by rw [F.2.1, fa.2.1]) ⟨?_, ?_, ?_, ?_, ?_, ?_⟩ ⟨?_, ?_, ?_, ?_, ?_, ?_⟩
  · rw [rf, updT_n (by omega), re, updT_n (by omega), rd', updT_n (by omega), rc, updT_n (by omega), rb, updT_s]; exact e1
  · rw [rf, updT_n (by omega), re, updT_n (by omega), rd', updT_n (by omega), rc, updT_s]; exact e2
  · rw [rf, updT_n (by omega), re, updT_n (by omega), rd', updT_s]; exact e3
  · rw [rf, updT_n (by omega), re, updT_s]; exact e4
  · rw [rf, updT_s]; exact e5
  · refine ⟨(S.gr G).t71, by rw [F.2.2.2.2.2.2 _ List.not_mem_nil]; exact pa, fun r r1 r2 => ?_, fun r r1 r2 x y x1 x2 y1 y2 => ?_⟩
    · rw [F.row (by decide), ra r r1 (by omega)]; exact q1 r r1 r2
    · rw [F.2.2.2.2.2.1 _ List.not_mem_nil, ja r r1 (by omega)]; exact q2 r r1 r2 x y x1 x2 y1 y2
  · rw [r66b hf F]; exact e1
  · rw [r66b hf F]; exact e2
  · rw [r66b hf F]; exact e3
  · rw [r66b hf F]; exact e4
  · rw [r66b hf F]; exact e5
  · exact TR.gr ⟨B, p, q1, q2⟩ G (by intro k hk; unfold DynP; simp [hk]) (by decide) (by decide) (by decide)
noncomputable def metV (s t : Int → Int) : Int := foldI (sumF (soT s t (zC s)) (fun w => s (175 + 5 * w + 4))) (s 5).toNat 0 0
theorem met_bd (hG : GA s) (t : Int → Int) : 0 ≤ metV s t ∧ metV s t ≤ 990 := by
  have bd := hG.bd
  have m := sum_bd (P := soT s t (zC s)) (w := fun w => s (175 + 5 * w + 4)) (m := 99) (by omega) (s 5).toNat (fun o o1 o2 => hG.sb (175 + 5 * o + 4) (by omega) (by omega))
  unfold metV
  omega
/-- what is left of a run: its end may be a state that failed -/
def JE (s : Int → Int) (J : JS) : Prop := VT s J.1 (zC s) ∧ pvI 9600 J.2.1 ∧ (0 ≤ J.2.2 ∧ J.2.2 ≤ 6) ∧ (∀ j, j < 0 ∨ 24 ≤ j → J.1 j = 0) ∧ (∀ j, 3 * s 2 ≤ j → J.1 j = tS s j)
theorem JI.e (hJ : JI s n J) (hn : n ≤ 100) : JE s J := by
  obtain ⟨V, ⟨⟨x1, x2⟩, x3⟩, w, z, o⟩ := hJ
  exact ⟨V, ⟨⟨x1, by omega⟩, x3⟩, by omega, z, o⟩
theorem runF_e (hG : GA s) : ∀ (d : Nat) (j n : Int) (J : JS), JI s n J → 0 ≤ n → n + d ≤ 100 → 0 ≤ j → j + d ≤ s 249 → JE s (runF s q d j J).2 ∧ (-1 ≤ (runF s q d j J).1 ∧ (runF s q d j J).1 < s 249) ∧ ((runF s q d j J).1 = -1 → JI s (n + d) (runF s q d j J).2) ∧ ((runF s q d j J).1 ≠ -1 → j ≤ (runF s q d j J).1) := by
  intro d
  induction d with
  | zero =>
    intro j n J hJ n0 nd j0 jd
    exact ⟨hJ.e (by omega), ⟨by show (-1 : Int) ≤ -1; omega, by show (-1 : Int) < s 249; omega⟩, fun _ => by rw [show n + ((0 : Nat) : Int) = n by omega]; exact hJ, fun p => absurd rfl p⟩
  | succ d ih =>
    intro j n J hJ n0 nd j0 jd
    have A := hG.act j0 (show j < s 249 by omega)
    rw [runF]
    by_cases c : stW s q J (s (250 + 2 * j)) (s (250 + 2 * j + 1)) = 0
    · rw [ite_t c]
      obtain ⟨r1, r2, r3, r4⟩ := ih (j + 1) (n + 1) _ (stJ_I hG A hJ n0 c) (by omega) (by omega) (by omega) (by omega)
      refine ⟨r1, r2, fun p => ?_, fun p => by have := r4 p; omega⟩
      rw [show n + ((d + 1 : Nat) : Int) = n + 1 + d by omega]
      exact r3 p
    · rw [ite_f c]
      obtain ⟨V, ⟨⟨x1, x2⟩, x3⟩, w, z, o⟩ := hJ
      refine ⟨?_, ⟨by show (-1 : Int) ≤ j; omega, by show j < s 249; omega⟩, fun p => by have p : j = -1 := p; omega, fun _ => Int.le_refl j⟩
      have c5 : ¬ s (250 + 2 * j) = 5 := fun p => c (by unfold stW; rw [ite_t p])
      have wb := why_bd (s := s) (t := J.1) (z := zC s) (r := s (250 + 2 * j + 1)) (how := s (250 + 2 * j)) (hr := (q + J.2.1.1) / 4 % 24)
      have eJ : stJ s q J (s (250 + 2 * j)) (s (250 + 2 * j + 1)) = (J.1, J.2.1, stW s q J (s (250 + 2 * j)) (s (250 + 2 * j + 1))) := by
        unfold stJ
        rw [ite_f c5, ite_f c]
      show JE s (stJ s q J (s (250 + 2 * j)) (s (250 + 2 * j + 1)))
      rw [eJ]
      refine ⟨V, ⟨⟨x1, Int.le_trans x2 (by omega)⟩, x3⟩, ?_, z, o⟩
      show 0 ≤ stW s q J (s (250 + 2 * j)) (s (250 + 2 * j + 1)) ∧ stW s q J (s (250 + 2 * j)) (s (250 + 2 * j + 1)) ≤ 6
      unfold stW
      rw [ite_f c5]
      exact wb
theorem cX_judge (I : Inv h i la fr qa ac) (hq1 : -2147483648 ≤ q) (hq2 : q < 2147483648)
    (k1 : ∀ h', (0 ≤ q ∧ q < 96) → Gr [0, 62, 64] [65] [(63, 0)] h h' → aN h' = aN h → aS h' = aS h → TrR h' 62 la (rd h 94) q (runF (rd h 94) q (rd h 94 249).toNat 0 (J0 (rd h 94))).2 → rd h' 0 11 = 1 → rd h' 0 12 = rd h 94 2 → rd h' 0 13 = metV (rd h 94) (runF (rd h 94) q (rd h 94 249).toNat 0 (J0 (rd h 94))).2.1 → (∀ j, j < 11 → rd h' 0 j = rd h 0 j) → post h' (iI (runF (rd h 94) q (rd h 94 249).toNat 0 (J0 (rd h 94))).1))
    (k0 : ¬ (0 ≤ q ∧ q < 96) → post h (iI (-2))) : wp_X11_judge h 0 (iI q) post := by
  have C := I.cc
  have hG := I.ga
  have bd := hG.bd
  have T := I.core.2.2.2.2.2.2.1
  obtain ⟨S, hl, hp, H, L, P⟩ := C
  generalize hs : rd h 94 = s at *
  unfold wp_X11_judge
  simp (disch := omega) only [-Int.reduceToNat, -Int32.reduceToNatClampNeg, il0, il1, il2, il3, il4, il5, il6, il7, il8, il9, il10, il11, il12, il13, il14, il15, il16, il17, il18, il19, il20, il21, il22, il23, il24, il25, il26, il27, il28, il29, il30, il31, il32, il35, il36, il38, il40, il42, il43, il44, il45, il46, il47, il48, il49, il50, il51, il52, il57, il59, il60, il63, il64, il75, il80, il95, il96, il97, il98, il99, il100, il120, il122, il123, il127, il128, il135, il167, il175, il225, il249, il250, il255, il256, il360, il370, il384, il600, il700, il740, il900, il940, il1024, il1600, il4800, il64000, il125000, il262143, il1000000000, iI_toInt, iI_add, iI_sub, iI_mul, iI_neg, iI_lt, iI_le, iI_eq, iI_n, iI_in, iI_div, iI_mod, iI_shm, iI_and1, iI_and7, iI_and63, iI_shr3, iI_shr6, rd_I, ob, Option.some.injEq, exists_eq_left', exists_eq_left, true_and, and_true, fqI, fqJ, eq_self, true_or, or_true, bP_0, bP_0i, npP, bP_1i, bP_b, not_true_eq_false, not_false_eq_true, false_implies, true_implies, implies_true, Classical.not_not, and_self, cP, cP', ite_n, c_isQuarter]
  by_cases cq : 0 ≤ q ∧ q < 96
  case neg => rw [ite_f cq]; exact k0 cq
  rw [ite_t cq]
  simp (disch := omega) only [CSh.o0 S, CSh.o1 S, CSh.o2 S, CSh.o3 S, CSh.o26 S, CSh.o27 S, CSh.o29 S, CSh.o30 S, CSh.o31 S, CSh.o56 S, CSh.o57 S, CSh.o58 S, CSh.o62 S, CSh.o66 S, CSh.o70 S, CSh.o74 S, CSh.o75 S, CSh.o77 S, CSh.o79 S, CSh.o80 S, CSh.o81 S, CSh.o82 S, CSh.o83 S, CSh.o84 S, CSh.o85 S, CSh.o86 S, CSh.o87 S, CSh.o88 S, CSh.o53 S, CSh.o54 S, CSh.o55 S, CSh.o59 S, CSh.o60 S, CSh.o61 S, CSh.o63 S, CSh.o64 S, CSh.o65 S, CSh.o67 S, CSh.o68 S, CSh.o69 S, CSh.o71 S, CSh.o72 S, CSh.o73 S, CSh.o89 S, CSh.o90 S, CSh.o91 S, CSh.l1 S, CSh.l3 S, CSh.l27 S, CSh.l29 S, CSh.l30 S, CSh.l56 S, CSh.l57 S, CSh.l58 S, CSh.l75 S, CSh.l77 S, CSh.l79 S, CSh.l81 S, CSh.l82 S, CSh.l83 S, CSh.l84 S, CSh.l85 S, CSh.l86 S, CSh.l87 S, CSh.l88 S, CSh.l54 S, CSh.l55 S, CSh.l60 S, CSh.l61 S, CSh.l64 S, CSh.l65 S, CSh.l68 S, CSh.l69 S, CSh.l72 S, CSh.l73 S, CSh.l90 S, CSh.l91 S, CSh.p0_0 S, CSh.p0_3 S, CSh.p0_4 S, CSh.p0_5 S, CSh.p0_6 S, CSh.p0_7 S, CSh.p0_8 S, CSh.p0_9 S, CSh.p0_10 S, CSh.p0_14 S, CSh.p2_0 S, CSh.p26_0 S, CSh.p26_13 S, CSh.p26_14 S, CSh.p31_1 S, CSh.p31_3 S, CSh.p31_4 S, CSh.p62_0 S, CSh.p66_0 S, CSh.p70_0 S, CSh.p74_0 S, CSh.p74_1 S, CSh.p74_6 S, CSh.p74_7 S, CSh.p74_10 S, CSh.p80_1 S, CSh.p80_2 S, CSh.p80_3 S, CSh.p80_4 S, CSh.p80_5 S, CSh.p80_6 S, CSh.p80_7 S, CSh.p80_8 S, CSh.p53_1 S, CSh.p53_2 S, CSh.p59_1 S, CSh.p59_2 S, CSh.p63_1 S, CSh.p63_2 S, CSh.p67_1 S, CSh.p67_2 S, CSh.p71_1 S, CSh.p71_2 S, CSh.p89_1 S, CSh.p89_2 S, hp, -Int.reduceToNat, -Int32.reduceToNatClampNeg, il0, il1, il2, il3, il4, il5, il6, il7, il8, il9, il10, il11, il12, il13, il14, il15, il16, il17, il18, il19, il20, il21, il22, il23, il24, il25, il26, il27, il28, il29, il30, il31, il32, il35, il36, il38, il40, il42, il43, il44, il45, il46, il47, il48, il49, il50, il51, il52, il57, il59, il60, il63, il64, il75, il80, il95, il96, il97, il98, il99, il100, il120, il122, il123, il127, il128, il135, il167, il175, il225, il249, il250, il255, il256, il360, il370, il384, il600, il700, il740, il900, il940, il1024, il1600, il4800, il64000, il125000, il262143, il1000000000, ob, Option.some.injEq, exists_eq_left', exists_eq_left, true_and, and_true, fqI, fqJ, eq_self, true_or, or_true, bP_0, bP_0i, npP, bP_1i, bP_b, not_true_eq_false, not_false_eq_true, false_implies, true_implies, implies_true, Classical.not_not, and_self]
  refine c_beginT ⟨S, hl, hp, H, L, P⟩ (Or.inl rfl) hG T cq fun ha ga na sa Ra => ?_
  have Ca := CC.gr (s := s) ⟨S, hl, hp, H, L, P⟩ ga (fun a ha => by simp at ha; omega) (fun a ha => by simp at ha; omega) (by decide)
  have Sa := Ca.1
  simp (disch := omega) only [CSh.o0 Sa, CSh.o1 Sa, CSh.o2 Sa, CSh.o3 Sa, CSh.o26 Sa, CSh.o27 Sa, CSh.o29 Sa, CSh.o30 Sa, CSh.o31 Sa, CSh.o56 Sa, CSh.o57 Sa, CSh.o58 Sa, CSh.o62 Sa, CSh.o66 Sa, CSh.o70 Sa, CSh.o74 Sa, CSh.o75 Sa, CSh.o77 Sa, CSh.o79 Sa, CSh.o80 Sa, CSh.o81 Sa, CSh.o82 Sa, CSh.o83 Sa, CSh.o84 Sa, CSh.o85 Sa, CSh.o86 Sa, CSh.o87 Sa, CSh.o88 Sa, CSh.o53 Sa, CSh.o54 Sa, CSh.o55 Sa, CSh.o59 Sa, CSh.o60 Sa, CSh.o61 Sa, CSh.o63 Sa, CSh.o64 Sa, CSh.o65 Sa, CSh.o67 Sa, CSh.o68 Sa, CSh.o69 Sa, CSh.o71 Sa, CSh.o72 Sa, CSh.o73 Sa, CSh.o89 Sa, CSh.o90 Sa, CSh.o91 Sa, CSh.l1 Sa, CSh.l3 Sa, CSh.l27 Sa, CSh.l29 Sa, CSh.l30 Sa, CSh.l56 Sa, CSh.l57 Sa, CSh.l58 Sa, CSh.l75 Sa, CSh.l77 Sa, CSh.l79 Sa, CSh.l81 Sa, CSh.l82 Sa, CSh.l83 Sa, CSh.l84 Sa, CSh.l85 Sa, CSh.l86 Sa, CSh.l87 Sa, CSh.l88 Sa, CSh.l54 Sa, CSh.l55 Sa, CSh.l60 Sa, CSh.l61 Sa, CSh.l64 Sa, CSh.l65 Sa, CSh.l68 Sa, CSh.l69 Sa, CSh.l72 Sa, CSh.l73 Sa, CSh.l90 Sa, CSh.l91 Sa, CSh.p0_0 Sa, CSh.p0_3 Sa, CSh.p0_4 Sa, CSh.p0_5 Sa, CSh.p0_6 Sa, CSh.p0_7 Sa, CSh.p0_8 Sa, CSh.p0_9 Sa, CSh.p0_10 Sa, CSh.p0_14 Sa, CSh.p2_0 Sa, CSh.p26_0 Sa, CSh.p26_13 Sa, CSh.p26_14 Sa, CSh.p31_1 Sa, CSh.p31_3 Sa, CSh.p31_4 Sa, CSh.p62_0 Sa, CSh.p66_0 Sa, CSh.p70_0 Sa, CSh.p74_0 Sa, CSh.p74_1 Sa, CSh.p74_6 Sa, CSh.p74_7 Sa, CSh.p74_10 Sa, CSh.p80_1 Sa, CSh.p80_2 Sa, CSh.p80_3 Sa, CSh.p80_4 Sa, CSh.p80_5 Sa, CSh.p80_6 Sa, CSh.p80_7 Sa, CSh.p80_8 Sa, CSh.p53_1 Sa, CSh.p53_2 Sa, CSh.p59_1 Sa, CSh.p59_2 Sa, CSh.p63_1 Sa, CSh.p63_2 Sa, CSh.p67_1 Sa, CSh.p67_2 Sa, CSh.p71_1 Sa, CSh.p71_2 Sa, CSh.p89_1 Sa, CSh.p89_2 Sa, -Int.reduceToNat, -Int32.reduceToNatClampNeg, il0, il1, il2, il3, il4, il5, il6, il7, il8, il9, il10, il11, il12, il13, il14, il15, il16, il17, il18, il19, il20, il21, il22, il23, il24, il25, il26, il27, il28, il29, il30, il31, il32, il35, il36, il38, il40, il42, il43, il44, il45, il46, il47, il48, il49, il50, il51, il52, il57, il59, il60, il63, il64, il75, il80, il95, il96, il97, il98, il99, il100, il120, il122, il123, il127, il128, il135, il167, il175, il225, il249, il250, il255, il256, il360, il370, il384, il600, il700, il740, il900, il940, il1024, il1600, il4800, il64000, il125000, il262143, il1000000000, ob, Option.some.injEq, exists_eq_left', exists_eq_left, true_and, and_true, fqI, fqJ, eq_self, true_or, or_true, bP_0, bP_0i, npP, bP_1i, bP_b, not_true_eq_false, not_false_eq_true, false_implies, true_implies, implies_true, Classical.not_not, and_self]
  have e249 : (0 : Int) + ((s 249).toNat : Int) = s 249 := by omega
  refine c_runFrom hG (Or.inl rfl) cq (s 249).toNat 0 0 (J0 s) ha Ca Ra (J0_I hG) (by omega) (by omega) (by omega) e249 fun hb fb Rb => ?_
  have Cb := Ca.gr fb.gr (fun a ha => by simp at ha; omega) (fun a ha => by simp at ha; omega) List.not_mem_nil
  obtain ⟨je, je2, -, -⟩ := runF_e (q := q) hG (s 249).toNat 0 0 (J0 s) (J0_I hG) (by omega) (by omega) (by omega) (by omega)
  generalize hr : runF s q (s 249).toNat 0 (J0 s) = RR at *
  have Sb := Cb.1
  simp (disch := omega) only [CSh.o0 Sb, CSh.o1 Sb, CSh.o2 Sb, CSh.o3 Sb, CSh.o26 Sb, CSh.o27 Sb, CSh.o29 Sb, CSh.o30 Sb, CSh.o31 Sb, CSh.o56 Sb, CSh.o57 Sb, CSh.o58 Sb, CSh.o62 Sb, CSh.o66 Sb, CSh.o70 Sb, CSh.o74 Sb, CSh.o75 Sb, CSh.o77 Sb, CSh.o79 Sb, CSh.o80 Sb, CSh.o81 Sb, CSh.o82 Sb, CSh.o83 Sb, CSh.o84 Sb, CSh.o85 Sb, CSh.o86 Sb, CSh.o87 Sb, CSh.o88 Sb, CSh.o53 Sb, CSh.o54 Sb, CSh.o55 Sb, CSh.o59 Sb, CSh.o60 Sb, CSh.o61 Sb, CSh.o63 Sb, CSh.o64 Sb, CSh.o65 Sb, CSh.o67 Sb, CSh.o68 Sb, CSh.o69 Sb, CSh.o71 Sb, CSh.o72 Sb, CSh.o73 Sb, CSh.o89 Sb, CSh.o90 Sb, CSh.o91 Sb, CSh.l1 Sb, CSh.l3 Sb, CSh.l27 Sb, CSh.l29 Sb, CSh.l30 Sb, CSh.l56 Sb, CSh.l57 Sb, CSh.l58 Sb, CSh.l75 Sb, CSh.l77 Sb, CSh.l79 Sb, CSh.l81 Sb, CSh.l82 Sb, CSh.l83 Sb, CSh.l84 Sb, CSh.l85 Sb, CSh.l86 Sb, CSh.l87 Sb, CSh.l88 Sb, CSh.l54 Sb, CSh.l55 Sb, CSh.l60 Sb, CSh.l61 Sb, CSh.l64 Sb, CSh.l65 Sb, CSh.l68 Sb, CSh.l69 Sb, CSh.l72 Sb, CSh.l73 Sb, CSh.l90 Sb, CSh.l91 Sb, CSh.p0_0 Sb, CSh.p0_3 Sb, CSh.p0_4 Sb, CSh.p0_5 Sb, CSh.p0_6 Sb, CSh.p0_7 Sb, CSh.p0_8 Sb, CSh.p0_9 Sb, CSh.p0_10 Sb, CSh.p0_14 Sb, CSh.p2_0 Sb, CSh.p26_0 Sb, CSh.p26_13 Sb, CSh.p26_14 Sb, CSh.p31_1 Sb, CSh.p31_3 Sb, CSh.p31_4 Sb, CSh.p62_0 Sb, CSh.p66_0 Sb, CSh.p70_0 Sb, CSh.p74_0 Sb, CSh.p74_1 Sb, CSh.p74_6 Sb, CSh.p74_7 Sb, CSh.p74_10 Sb, CSh.p80_1 Sb, CSh.p80_2 Sb, CSh.p80_3 Sb, CSh.p80_4 Sb, CSh.p80_5 Sb, CSh.p80_6 Sb, CSh.p80_7 Sb, CSh.p80_8 Sb, CSh.p53_1 Sb, CSh.p53_2 Sb, CSh.p59_1 Sb, CSh.p59_2 Sb, CSh.p63_1 Sb, CSh.p63_2 Sb, CSh.p67_1 Sb, CSh.p67_2 Sb, CSh.p71_1 Sb, CSh.p71_2 Sb, CSh.p89_1 Sb, CSh.p89_2 Sb, -Int.reduceToNat, -Int32.reduceToNatClampNeg, il0, il1, il2, il3, il4, il5, il6, il7, il8, il9, il10, il11, il12, il13, il14, il15, il16, il17, il18, il19, il20, il21, il22, il23, il24, il25, il26, il27, il28, il29, il30, il31, il32, il35, il36, il38, il40, il42, il43, il44, il45, il46, il47, il48, il49, il50, il51, il52, il57, il59, il60, il63, il64, il75, il80, il95, il96, il97, il98, il99, il100, il120, il122, il123, il127, il128, il135, il167, il175, il225, il249, il250, il255, il256, il360, il370, il384, il600, il700, il740, il900, il940, il1024, il1600, il4800, il64000, il125000, il262143, il1000000000, ob, Option.some.injEq, exists_eq_left', exists_eq_left, true_and, and_true, fqI, fqJ, eq_self, true_or, or_true, bP_0, bP_0i, npP, bP_1i, bP_b, not_true_eq_false, not_false_eq_true, false_implies, true_implies, implies_true, Classical.not_not, and_self, bP_b]
  intro hc ec
  obtain ⟨fc, rc⟩ := wI (i := 11) (by omega) (by omega) (by omega) ec
  have Cc := Cb.gr fc.gr (fun a ha => by simp at ha; omega) (fun a ha => absurd ha List.not_mem_nil) List.not_mem_nil
  have Sc := Cc.1
  have pc := Cc.2.2.1
  have Hc := Cc.2.2.2.1
  have Lc := Cc.2.2.2.2.1
  simp (disch := omega) only [CSh.o0 Sc, CSh.o1 Sc, CSh.o2 Sc, CSh.o3 Sc, CSh.o26 Sc, CSh.o27 Sc, CSh.o29 Sc, CSh.o30 Sc, CSh.o31 Sc, CSh.o56 Sc, CSh.o57 Sc, CSh.o58 Sc, CSh.o62 Sc, CSh.o66 Sc, CSh.o70 Sc, CSh.o74 Sc, CSh.o75 Sc, CSh.o77 Sc, CSh.o79 Sc, CSh.o80 Sc, CSh.o81 Sc, CSh.o82 Sc, CSh.o83 Sc, CSh.o84 Sc, CSh.o85 Sc, CSh.o86 Sc, CSh.o87 Sc, CSh.o88 Sc, CSh.o53 Sc, CSh.o54 Sc, CSh.o55 Sc, CSh.o59 Sc, CSh.o60 Sc, CSh.o61 Sc, CSh.o63 Sc, CSh.o64 Sc, CSh.o65 Sc, CSh.o67 Sc, CSh.o68 Sc, CSh.o69 Sc, CSh.o71 Sc, CSh.o72 Sc, CSh.o73 Sc, CSh.o89 Sc, CSh.o90 Sc, CSh.o91 Sc, CSh.l1 Sc, CSh.l3 Sc, CSh.l27 Sc, CSh.l29 Sc, CSh.l30 Sc, CSh.l56 Sc, CSh.l57 Sc, CSh.l58 Sc, CSh.l75 Sc, CSh.l77 Sc, CSh.l79 Sc, CSh.l81 Sc, CSh.l82 Sc, CSh.l83 Sc, CSh.l84 Sc, CSh.l85 Sc, CSh.l86 Sc, CSh.l87 Sc, CSh.l88 Sc, CSh.l54 Sc, CSh.l55 Sc, CSh.l60 Sc, CSh.l61 Sc, CSh.l64 Sc, CSh.l65 Sc, CSh.l68 Sc, CSh.l69 Sc, CSh.l72 Sc, CSh.l73 Sc, CSh.l90 Sc, CSh.l91 Sc, CSh.p0_0 Sc, CSh.p0_3 Sc, CSh.p0_4 Sc, CSh.p0_5 Sc, CSh.p0_6 Sc, CSh.p0_7 Sc, CSh.p0_8 Sc, CSh.p0_9 Sc, CSh.p0_10 Sc, CSh.p0_14 Sc, CSh.p2_0 Sc, CSh.p26_0 Sc, CSh.p26_13 Sc, CSh.p26_14 Sc, CSh.p31_1 Sc, CSh.p31_3 Sc, CSh.p31_4 Sc, CSh.p62_0 Sc, CSh.p66_0 Sc, CSh.p70_0 Sc, CSh.p74_0 Sc, CSh.p74_1 Sc, CSh.p74_6 Sc, CSh.p74_7 Sc, CSh.p74_10 Sc, CSh.p80_1 Sc, CSh.p80_2 Sc, CSh.p80_3 Sc, CSh.p80_4 Sc, CSh.p80_5 Sc, CSh.p80_6 Sc, CSh.p80_7 Sc, CSh.p80_8 Sc, CSh.p53_1 Sc, CSh.p53_2 Sc, CSh.p59_1 Sc, CSh.p59_2 Sc, CSh.p63_1 Sc, CSh.p63_2 Sc, CSh.p67_1 Sc, CSh.p67_2 Sc, CSh.p71_1 Sc, CSh.p71_2 Sc, CSh.p89_1 Sc, CSh.p89_2 Sc, pc, LB.o0 Hc, LB.p2 Hc, LB.o1 Hc, LB.l1 Hc, LB.p3 Hc, LB.o2 Hc, LB.l2 Hc, LB.p4 Hc, LB.o3 Hc, LB.l3 Hc, LB.p6 Hc, LB.o4 Hc, LB.l4 Hc, LB.p7 Hc, LB.o5 Hc, LB.l5 Hc, LB.p8 Hc, LB.o6 Hc, LB.l6 Hc, LB.p9 Hc, LB.o7 Hc, LB.l7 Hc, LB.p10 Hc, LB.o8 Hc, LB.l8 Hc, LB.p12 Hc, LB.o9 Hc, LB.l9 Hc, LB.p14 Hc, LB.o10 Hc, LB.p15 Hc, LB.o16 Hc, LB.q10_1 Hc, LB.o11 Hc, LB.l11 Hc, LB.q10_2 Hc, LB.o12 Hc, LB.l12 Hc, LB.q10_3 Hc, LB.o13 Hc, LB.l13 Hc, LB.q10_4 Hc, LB.o14 Hc, LB.l14 Hc, LB.q10_5 Hc, LB.o15 Hc, LB.l15 Hc, LB.q16_1 Hc, LB.o17 Hc, LB.l17 Hc, LB.q16_2 Hc, LB.o18 Hc, LB.l18 Hc, LB.q16_3 Hc, LB.o19 Hc, LB.l19 Hc, LB.q16_4 Hc, LB.o20 Hc, LB.l20 Hc, fd0, fd1, fd2, fd3, fd4, fd5, fd6, fd7, fd8, fd9, fd10, fd11, fd12, fd13, fd14, fd15, fd16, fd17, fd18, fd19, fd20, fd21, fd22, fd23, fd24, fd25, fd26, fd27, fd28, fd29, fd30, fd31, fd32, fd33, fd34, fd35, fd36, fd37, fd38, fd39, fd40, fd41, fd42, fd43, fd44, fd45, fd46, fd47, fd48, fd49, fd50, fd51, fd52, LR.c5 Lc, -Int.reduceToNat, -Int32.reduceToNatClampNeg, il0, il1, il2, il3, il4, il5, il6, il7, il8, il9, il10, il11, il12, il13, il14, il15, il16, il17, il18, il19, il20, il21, il22, il23, il24, il25, il26, il27, il28, il29, il30, il31, il32, il35, il36, il38, il40, il42, il43, il44, il45, il46, il47, il48, il49, il50, il51, il52, il57, il59, il60, il63, il64, il75, il80, il95, il96, il97, il98, il99, il100, il120, il122, il123, il127, il128, il135, il167, il175, il225, il249, il250, il255, il256, il360, il370, il384, il600, il700, il740, il900, il940, il1024, il1600, il4800, il64000, il125000, il262143, il1000000000, ob, Option.some.injEq, exists_eq_left', exists_eq_left, true_and, and_true, fqI, fqJ, eq_self, true_or, or_true, bP_0, bP_0i, npP, bP_1i, bP_b, not_true_eq_false, not_false_eq_true, false_implies, true_implies, implies_true, Classical.not_not, and_self]
  intro hd ed
  obtain ⟨fd, rd'⟩ := wI (i := 12) (by omega) (by omega) (by omega) ed
  have Cd := Cc.gr fd.gr (fun a ha => by simp at ha; omega) (fun a ha => absurd ha List.not_mem_nil) List.not_mem_nil
  have Sd := Cd.1
  have Hd := Cd.2.2.2.1
  have Ld := Cd.2.2.2.2.1
  have F2 : Fr [0] [] [] hb hd := fc.trans fd
  have Td : TR hd 63 la s RR.2.1 (zC s) := by
    obtain ⟨-, -, -, -, -, t1⟩ := Rb
    exact TR.gr t1 F2.gr (by intro k hk; unfold DynP; simp [hk]) List.not_mem_nil (by decide) List.not_mem_nil
  simp (disch := omega) only [CSh.o0 Sd, CSh.o1 Sd, CSh.o2 Sd, CSh.o3 Sd, CSh.o26 Sd, CSh.o27 Sd, CSh.o29 Sd, CSh.o30 Sd, CSh.o31 Sd, CSh.o56 Sd, CSh.o57 Sd, CSh.o58 Sd, CSh.o62 Sd, CSh.o66 Sd, CSh.o70 Sd, CSh.o74 Sd, CSh.o75 Sd, CSh.o77 Sd, CSh.o79 Sd, CSh.o80 Sd, CSh.o81 Sd, CSh.o82 Sd, CSh.o83 Sd, CSh.o84 Sd, CSh.o85 Sd, CSh.o86 Sd, CSh.o87 Sd, CSh.o88 Sd, CSh.o53 Sd, CSh.o54 Sd, CSh.o55 Sd, CSh.o59 Sd, CSh.o60 Sd, CSh.o61 Sd, CSh.o63 Sd, CSh.o64 Sd, CSh.o65 Sd, CSh.o67 Sd, CSh.o68 Sd, CSh.o69 Sd, CSh.o71 Sd, CSh.o72 Sd, CSh.o73 Sd, CSh.o89 Sd, CSh.o90 Sd, CSh.o91 Sd, CSh.l1 Sd, CSh.l3 Sd, CSh.l27 Sd, CSh.l29 Sd, CSh.l30 Sd, CSh.l56 Sd, CSh.l57 Sd, CSh.l58 Sd, CSh.l75 Sd, CSh.l77 Sd, CSh.l79 Sd, CSh.l81 Sd, CSh.l82 Sd, CSh.l83 Sd, CSh.l84 Sd, CSh.l85 Sd, CSh.l86 Sd, CSh.l87 Sd, CSh.l88 Sd, CSh.l54 Sd, CSh.l55 Sd, CSh.l60 Sd, CSh.l61 Sd, CSh.l64 Sd, CSh.l65 Sd, CSh.l68 Sd, CSh.l69 Sd, CSh.l72 Sd, CSh.l73 Sd, CSh.l90 Sd, CSh.l91 Sd, CSh.p0_0 Sd, CSh.p0_3 Sd, CSh.p0_4 Sd, CSh.p0_5 Sd, CSh.p0_6 Sd, CSh.p0_7 Sd, CSh.p0_8 Sd, CSh.p0_9 Sd, CSh.p0_10 Sd, CSh.p0_14 Sd, CSh.p2_0 Sd, CSh.p26_0 Sd, CSh.p26_13 Sd, CSh.p26_14 Sd, CSh.p31_1 Sd, CSh.p31_3 Sd, CSh.p31_4 Sd, CSh.p62_0 Sd, CSh.p66_0 Sd, CSh.p70_0 Sd, CSh.p74_0 Sd, CSh.p74_1 Sd, CSh.p74_6 Sd, CSh.p74_7 Sd, CSh.p74_10 Sd, CSh.p80_1 Sd, CSh.p80_2 Sd, CSh.p80_3 Sd, CSh.p80_4 Sd, CSh.p80_5 Sd, CSh.p80_6 Sd, CSh.p80_7 Sd, CSh.p80_8 Sd, CSh.p53_1 Sd, CSh.p53_2 Sd, CSh.p59_1 Sd, CSh.p59_2 Sd, CSh.p63_1 Sd, CSh.p63_2 Sd, CSh.p67_1 Sd, CSh.p67_2 Sd, CSh.p71_1 Sd, CSh.p71_2 Sd, CSh.p89_1 Sd, CSh.p89_2 Sd, -Int.reduceToNat, -Int32.reduceToNatClampNeg, il0, il1, il2, il3, il4, il5, il6, il7, il8, il9, il10, il11, il12, il13, il14, il15, il16, il17, il18, il19, il20, il21, il22, il23, il24, il25, il26, il27, il28, il29, il30, il31, il32, il35, il36, il38, il40, il42, il43, il44, il45, il46, il47, il48, il49, il50, il51, il52, il57, il59, il60, il63, il64, il75, il80, il95, il96, il97, il98, il99, il100, il120, il122, il123, il127, il128, il135, il167, il175, il225, il249, il250, il255, il256, il360, il370, il384, il600, il700, il740, il900, il940, il1024, il1600, il4800, il64000, il125000, il262143, il1000000000, ob, Option.some.injEq, exists_eq_left', exists_eq_left, true_and, and_true, fqI, fqJ, eq_self, true_or, or_true, bP_0, bP_0i, npP, bP_1i, bP_b, not_true_eq_false, not_false_eq_true, false_implies, true_implies, implies_true, Classical.not_not, and_self, c_met Hd Ld Td hG.1 hG.2.1 (EZ.c _) je.1]
  intro he ee
  have mb := met_bd hG RR.2.1
  have ee' : he = hI hd 0 13 (iI (metV s RR.2.1)) := ee
  obtain ⟨fe, re⟩ := wI (i := 13) (by omega) (by omega) (by omega) ee'
  have F3 : Fr [0] [] [] hb he := F2.trans fe
  have r0 : ∀ j, j < 11 → rd he 0 j = rd h 0 j := fun j hj => by
    rw [re, updT_n (by omega), rd', updT_n (by omega), rc, updT_n (by omega), fb.row (by decide), ga.row (S.o0).2 (by decide)]
  refine k1 he cq ?_ (by rw [F3.1, fb.1, na]) (by rw [F3.2.1, fb.2.1, sa]) ?_ ?_ ?_ ?_ r0
  · exact (ga.mono (by simp) (by simp) (by simp) (by simp [DynP])).trans ((fb.gr.mono (by simp) (by simp) (by simp) (by simp [DynP])).trans (F3.gr.mono (by simp) (by simp) (by simp) (by simp [DynP])))
  · obtain ⟨a1, a2, a3, a4, a5, a6⟩ := Rb
    have nt : (62 : Nat) ∉ [(0 : Nat)] := by decide
    exact ⟨by rw [F3.row nt]; exact a1, by rw [F3.row nt]; exact a2, by rw [F3.row nt]; exact a3, by rw [F3.row nt]; exact a4, by rw [F3.row nt]; exact a5, TR.gr a6 F3.gr (by intro k hk; unfold DynP; simp [hk]) List.not_mem_nil (by decide) List.not_mem_nil⟩
  · rw [re, updT_n (by omega), rd', updT_n (by omega), rc, updT_s]
  · rw [re, updT_n (by omega), rd', updT_s]
  · rw [re, updT_s]
end JUDGE
