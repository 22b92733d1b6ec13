/-! BEST in the class -/
section CMO
variable {h h1 h2 h' h0 g0 g : AH} {qa0 qa ac la tw : Nat} {postV : AH → Prop} {post : AH → Int32 → Prop} {a b c d f i j k v w x y pl r hr how gl goal st u p o dn ls best : Int} {s t t' t0 z T : Int → Int} {S R0 : BS} {zr : Int64}
theorem c_mostLoop (rm : aN h0 ≤ 400000 ∧ aS h0 ≤ 4000000) (gs : GS s) (hL : WLi s) (fw : few s) (e : EZ z s) (v9 : ∀ k, 0 ≤ k → k < s 4 → s (135 + 4 * k + 2) ≤ 9) (ru : RUq s) (N0 : NSo h0 s z) (hs : ∀ X, 0 ≤ X → X < pw (s 5) → rd h0 77 X = wsm s (s 5).toNat X) (n77 : 77 < aN h0) (n87 : 87 < aN h0) (hk : 0 ≤ k ∧ k ≤ 60)
    (K : ∀ h' qa' S best p, DS h0 h' qa0 qa' la s t0 z hr (-1) S → BI (VB s t0 z) 0 (5 * s 2) S → bExt S R0 → p < S.1 → finB (fun v => mvT s (tuB s t0 v) z) R0 best p → wb_X6_mostMet_193 h' 74 (iI best) (iI p) post) :
    ∀ (dd : Nat) (i : Int) (S : BS) (h : AH) (qa : Nat) (best p dn ls : Int), DS h0 h qa0 qa la s t0 z hr (-1) S → BI (VB s t0 z) 0 (5 * s 2) S → i + dd = 64000 → 0 ≤ i → bstI (fun v => mvT s (tuB s t0 v) z) S.2.1 i best p → LVI S i dn ls k → R0 = bRun (nxB s t0 z hr) 0 (5 * s 2).toNat (stpB (-1) k) dd i S → wl_X6_mostMet_87 post (dd + 1) h 74 la (iI k) (iI (pw (s 5) - 1)) (iI best) (iI p) (iI dn) (iI ls) (iI i) := by
  have b2 := gs.1.1 2 (by omega) (by omega)
  have b5 := gs.1.1 5 (by omega) (by omega)
  have n5 := gs.1.2.2.2.2.2.2.1
  have f3 := fw.1
  have pb := pw_b b5.1 n5
  have mn : ∀ v, 0 ≤ (fun v => mvT s (tuB s t0 v) z) v := fun v => (mv_b (t := tuB s t0 v) (z := z) gs).1.1
  have nxt : ∀ v a, VB s t0 z v → 0 ≤ a → a < 5 * s 2 → 0 ≤ nxB s t0 z hr v a → VB s t0 z (nxB s t0 z hr v a) := fun v a hv a0 a1 hn => nxB_cl gs fw e a0 a1 hv hn
  intro dd
  induction dd with
  | zero =>
    intro i S h qa best p dn ls A I hd i0 J L E
    have t64 := I.le64 gs fw e
    have t1 := I.1
    have SS := A.C.S
    have tt := A.C.tt
    have lv := L.1
    have fin : wb_X6_mostMet_193 h 74 (iI best) (iI p) post := by
      rcases J with ⟨j1, j2, j3⟩ | ⟨j1, j2, j3, j4⟩
      · omega
      · refine K h qa S best p A I (by rw [E]; exact bExt.refl S) (by omega) ?_
        rw [E]
        exact ⟨by show 0 ≤ p ∧ p < S.1; omega, j2, fun j h0 h1 => j3 j h0 (by have h1 : j < S.1 := h1; omega), j4⟩
    show wb_X6_mostMet_87 (wl_X6_mostMet_87 post 0) h 74 la (iI k) (iI (pw (s 5) - 1)) (iI best) (iI p) (iI dn) (iI ls) (iI i) post
    unfold wb_X6_mostMet_87
    simp (disch := omega) only [CSh.o0 SS, CSh.o1 SS, CSh.o2 SS, CSh.o3 SS, CSh.o26 SS, CSh.o27 SS, CSh.o29 SS, CSh.o30 SS, CSh.o31 SS, CSh.o56 SS, CSh.o57 SS, CSh.o58 SS, CSh.o62 SS, CSh.o66 SS, CSh.o70 SS, CSh.o74 SS, CSh.o75 SS, CSh.o77 SS, CSh.o79 SS, CSh.o80 SS, CSh.o81 SS, CSh.o82 SS, CSh.o83 SS, CSh.o84 SS, CSh.o85 SS, CSh.o86 SS, CSh.o87 SS, CSh.o88 SS, CSh.o53 SS, CSh.o54 SS, CSh.o55 SS, CSh.o59 SS, CSh.o60 SS, CSh.o61 SS, CSh.o63 SS, CSh.o64 SS, CSh.o65 SS, CSh.o67 SS, CSh.o68 SS, CSh.o69 SS, CSh.o71 SS, CSh.o72 SS, CSh.o73 SS, CSh.o89 SS, CSh.o90 SS, CSh.o91 SS, CSh.l1 SS, CSh.l3 SS, CSh.l27 SS, CSh.l29 SS, CSh.l30 SS, CSh.l56 SS, CSh.l57 SS, CSh.l58 SS, CSh.l75 SS, CSh.l77 SS, CSh.l79 SS, CSh.l81 SS, CSh.l82 SS, CSh.l83 SS, CSh.l84 SS, CSh.l85 SS, CSh.l86 SS, CSh.l87 SS, CSh.l88 SS, CSh.l54 SS, CSh.l55 SS, CSh.l60 SS, CSh.l61 SS, CSh.l64 SS, CSh.l65 SS, CSh.l68 SS, CSh.l69 SS, CSh.l72 SS, CSh.l73 SS, CSh.l90 SS, CSh.l91 SS, CSh.p0_0 SS, CSh.p0_3 SS, CSh.p0_4 SS, CSh.p0_5 SS, CSh.p0_6 SS, CSh.p0_7 SS, CSh.p0_8 SS, CSh.p0_9 SS, CSh.p0_10 SS, CSh.p0_14 SS, CSh.p2_0 SS, CSh.p26_0 SS, CSh.p26_13 SS, CSh.p26_14 SS, CSh.p31_1 SS, CSh.p31_3 SS, CSh.p31_4 SS, CSh.p62_0 SS, CSh.p66_0 SS, CSh.p70_0 SS, CSh.p74_0 SS, CSh.p74_1 SS, CSh.p74_6 SS, CSh.p74_7 SS, CSh.p74_10 SS, CSh.p80_1 SS, CSh.p80_2 SS, CSh.p80_3 SS, CSh.p80_4 SS, CSh.p80_5 SS, CSh.p80_6 SS, CSh.p80_7 SS, CSh.p80_8 SS, CSh.p53_1 SS, CSh.p53_2 SS, CSh.p59_1 SS, CSh.p59_2 SS, CSh.p63_1 SS, CSh.p63_2 SS, CSh.p67_1 SS, CSh.p67_2 SS, CSh.p71_1 SS, CSh.p71_2 SS, CSh.p89_1 SS, CSh.p89_2 SS, fd0, fd1, fd2, fd3, fd4, fd5, fd6, fd7, fd8, fd9, fd10, fd11, fd12, fd13, fd14, fd15, fd16, fd17, fd18, fd19, fd20, fd21, fd22, fd23, fd24, fd25, fd26, fd27, fd28, fd29, fd30, fd31, fd32, fd33, fd34, fd35, fd36, fd37, fd38, fd39, fd40, fd41, fd42, fd43, fd44, fd45, fd46, fd47, fd48, fd49, fd50, fd51, fd52, tt, -Int.reduceToNat, -Int32.reduceToNatClampNeg, il0, il1, il2, il3, il4, il5, il6, il7, il8, il9, il10, il11, il12, il13, il14, il15, il16, il17, il18, il19, il20, il21, il22, il23, il24, il25, il26, il27, il28, il29, il30, il31, il32, il35, il36, il38, il40, il42, il43, il44, il45, il46, il47, il48, il49, il50, il51, il52, il57, il59, il60, il63, il64, il75, il80, il95, il96, il97, il98, il99, il100, il120, il122, il123, il127, il128, il135, il167, il175, il225, il249, il250, il255, il256, il360, il370, il384, il600, il700, il740, il900, il940, il1024, il1600, il4800, il64000, il125000, il262143, il1000000000, iI_toInt, iI_add, iI_sub, iI_mul, iI_neg, iI_lt, iI_le, iI_eq, iI_n, iI_in, iI_div, iI_mod, iI_shm, iI_and1, iI_and7, iI_and63, iI_shr3, iI_shr6, rd_I, ob, Option.some.injEq, exists_eq_left', exists_eq_left, true_and, and_true, fqI, fqJ, eq_self, true_or, or_true, bP_0, bP_0i, npP, bP_1i, bP_b, not_true_eq_false, not_false_eq_true, false_implies, true_implies, implies_true, Classical.not_not, and_self]
    exact ⟨fun _ => fin, fun u => by omega⟩
  | succ dd ih =>
    intro i S h qa best p dn ls A I hd i0 J L E
    have t64 := I.le64 gs fw e
    have t1 := I.1
    have SS := A.C.S
    have tt := A.C.tt
    have lv := L.1
    have dnk := L.2.2.2.1
    have G := A.C.G
    have r77 : rd h 77 = rd h0 77 := G.row n77 (by unfold sWi; decide)
    have i87 : aI h 87 = aI h0 87 := G.2.2.2.1 87 n87 (by unfold sWi; decide)
    have NN : NSo h s z := N0.cg i87
    have hs' : ∀ X, 0 ≤ X → X < pw (s 5) → rd h 77 X = wsm s (s 5).toNat X := fun X x0 x1 => by rw [r77]; exact hs X x0 x1
    have ew : rd h 77 (pw (s 5) - 1) = wtot s := hs' _ (by omega) (by omega)
    have wb := mv_b (t := t0) (z := z) gs
    have bb : -1 ≤ best ∧ best ≤ 990 := by
      rcases J with ⟨j1, j2, j3⟩ | ⟨j1, j2, j3, j4⟩
      · omega
      · have := (mv_b (t := tuB s t0 (S.2.1 p)) (z := z) gs).1
        have j2 : best = mvT s (tuB s t0 (S.2.1 p)) z := j2
        omega
    have pbd : 0 ≤ p ∧ p ≤ i := by
      rcases J with ⟨j1, j2, j3⟩ | ⟨j1, j2, j3, j4⟩ <;> omega
    have out : (S.1 ≤ i ∨ wtot s ≤ best) → wb_X6_mostMet_193 h 74 (iI best) (iI p) post := fun u => by
      rcases J with ⟨j1, j2, j3⟩ | ⟨j1, j2, j3, j4⟩
      · omega
      · have ex : bExt S R0 := by rw [E]; exact bRun_ext _ _ _
        refine K h qa S best p A I ex (by omega) ?_
        have e1 := ex.1
        refine ⟨by omega, by rw [(ex.2 p (by omega)).1]; exact j2, fun j h0 h1 => ?_, fun j h0 h1 => by rw [(ex.2 j (by omega)).1]; exact j4 j h0 h1⟩
        rcases u with u | u
        · have eR : R0 = S := by rw [E, bRun, ite_f fun q => by have := q.1; omega]
          rw [eR] at h1 ⊢
          exact j3 j h0 (by omega)
        · have := (mv_b (t := tuB s t0 (R0.2.1 j)) (z := z) gs).2.1
          show mvT s (tuB s t0 (R0.2.1 j)) z ≤ best
          omega
    show wb_X6_mostMet_87 (wl_X6_mostMet_87 post (dd + 1)) h 74 la (iI k) (iI (pw (s 5) - 1)) (iI best) (iI p) (iI dn) (iI ls) (iI i) post
    have go : i < S.1 → ∀ dn' ls', LVI S i dn' ls' k → i < ls' → wb_X6_mostMet_131 (wl_X6_mostMet_87 post (dd + 1)) h 74 la (iI k) (iI (pw (s 5) - 1)) (iI best) (iI p) (iI dn') (iI ls') (iI i) post := fun hi dn' ls' L' il => by
      have vi := I.2.1 i i0 hi
      have V := vi.2
      have lv' := L'.1
      have dk' := L'.2.2.2.1
      have mi := mv_b (t := tuB s t0 (S.2.1 i)) (z := z) gs
      -- behind the weighing
      have tail : ∀ bs pp, (-1 ≤ bs ∧ bs ≤ 990) → (0 ≤ pp ∧ pp ≤ i) → (∀ S' : BS, (∀ j, j ≤ i → S'.2.1 j = S.2.1 j) → bstI (fun v => mvT s (tuB s t0 v) z) S'.2.1 (i + 1) bs pp) → wb_X6_mostMet_171 (wl_X6_mostMet_87 post (dd + 1)) h 74 la (iI k) (iI (pw (s 5) - 1)) (iI bs) (iI pp) (iI dn') (iI ls') (iI i) post := fun bs pp bsb ppb nj => by
        have H := A.H
        have c5 := A.L.c5
        unfold wb_X6_mostMet_171 wb_X6_mostMet_187
        simp (disch := omega) only [CSh.o0 SS, CSh.o1 SS, CSh.o2 SS, CSh.o3 SS, CSh.o26 SS, CSh.o27 SS, CSh.o29 SS, CSh.o30 SS, CSh.o31 SS, CSh.o56 SS, CSh.o57 SS, CSh.o58 SS, CSh.o62 SS, CSh.o66 SS, CSh.o70 SS, CSh.o74 SS, CSh.o75 SS, CSh.o77 SS, CSh.o79 SS, CSh.o80 SS, CSh.o81 SS, CSh.o82 SS, CSh.o83 SS, CSh.o84 SS, CSh.o85 SS, CSh.o86 SS, CSh.o87 SS, CSh.o88 SS, CSh.o53 SS, CSh.o54 SS, CSh.o55 SS, CSh.o59 SS, CSh.o60 SS, CSh.o61 SS, CSh.o63 SS, CSh.o64 SS, CSh.o65 SS, CSh.o67 SS, CSh.o68 SS, CSh.o69 SS, CSh.o71 SS, CSh.o72 SS, CSh.o73 SS, CSh.o89 SS, CSh.o90 SS, CSh.o91 SS, CSh.l1 SS, CSh.l3 SS, CSh.l27 SS, CSh.l29 SS, CSh.l30 SS, CSh.l56 SS, CSh.l57 SS, CSh.l58 SS, CSh.l75 SS, CSh.l77 SS, CSh.l79 SS, CSh.l81 SS, CSh.l82 SS, CSh.l83 SS, CSh.l84 SS, CSh.l85 SS, CSh.l86 SS, CSh.l87 SS, CSh.l88 SS, CSh.l54 SS, CSh.l55 SS, CSh.l60 SS, CSh.l61 SS, CSh.l64 SS, CSh.l65 SS, CSh.l68 SS, CSh.l69 SS, CSh.l72 SS, CSh.l73 SS, CSh.l90 SS, CSh.l91 SS, CSh.p0_0 SS, CSh.p0_3 SS, CSh.p0_4 SS, CSh.p0_5 SS, CSh.p0_6 SS, CSh.p0_7 SS, CSh.p0_8 SS, CSh.p0_9 SS, CSh.p0_10 SS, CSh.p0_14 SS, CSh.p2_0 SS, CSh.p26_0 SS, CSh.p26_13 SS, CSh.p26_14 SS, CSh.p31_1 SS, CSh.p31_3 SS, CSh.p31_4 SS, CSh.p62_0 SS, CSh.p66_0 SS, CSh.p70_0 SS, CSh.p74_0 SS, CSh.p74_1 SS, CSh.p74_6 SS, CSh.p74_7 SS, CSh.p74_10 SS, CSh.p80_1 SS, CSh.p80_2 SS, CSh.p80_3 SS, CSh.p80_4 SS, CSh.p80_5 SS, CSh.p80_6 SS, CSh.p80_7 SS, CSh.p80_8 SS, CSh.p53_1 SS, CSh.p53_2 SS, CSh.p59_1 SS, CSh.p59_2 SS, CSh.p63_1 SS, CSh.p63_2 SS, CSh.p67_1 SS, CSh.p67_2 SS, CSh.p71_1 SS, CSh.p71_2 SS, CSh.p89_1 SS, CSh.p89_2 SS, LB.o0 H, fd0, fd1, fd2, fd3, fd4, fd5, fd6, fd7, fd8, fd9, fd10, fd11, fd12, fd13, fd14, fd15, fd16, fd17, fd18, fd19, fd20, fd21, fd22, fd23, fd24, fd25, fd26, fd27, fd28, fd29, fd30, fd31, fd32, fd33, fd34, fd35, fd36, fd37, fd38, fd39, fd40, fd41, fd42, fd43, fd44, fd45, fd46, fd47, fd48, fd49, fd50, fd51, fd52, c5, -Int.reduceToNat, -Int32.reduceToNatClampNeg, il0, il1, il2, il3, il4, il5, il6, il7, il8, il9, il10, il11, il12, il13, il14, il15, il16, il17, il18, il19, il20, il21, il22, il23, il24, il25, il26, il27, il28, il29, il30, il31, il32, il35, il36, il38, il40, il42, il43, il44, il45, il46, il47, il48, il49, il50, il51, il52, il57, il59, il60, il63, il64, il75, il80, il95, il96, il97, il98, il99, il100, il120, il122, il123, il127, il128, il135, il167, il175, il225, il249, il250, il255, il256, il360, il370, il384, il600, il700, il740, il900, il940, il1024, il1600, il4800, il64000, il125000, il262143, il1000000000, iI_toInt, iI_add, iI_sub, iI_mul, iI_neg, iI_lt, iI_le, iI_eq, iI_n, iI_in, iI_div, iI_mod, iI_shm, iI_and1, iI_and7, iI_and63, iI_shr3, iI_shr6, rd_I, ob, Option.some.injEq, exists_eq_left', exists_eq_left, true_and, and_true, fqI, fqJ, eq_self, true_or, or_true, bP_0, bP_0i, npP, bP_1i, bP_b, not_true_eq_false, not_false_eq_true, false_implies, true_implies, implies_true, Classical.not_not, and_self]
        refine ⟨fun kd => ?_, fun nk => ?_⟩
        · have ek : dn' = k := by omega
          have all : ∀ j, i ≤ j → j < S.1 → stpB (-1) k j S := fun j h0 h1 => Or.inr (by rw [L'.2.1 j h0 (by have := L'.2.2.2.2 ek; omega)]; exact ek)
          have eR : R0 = S := by rw [E]; exact bRun_stay all _
          exact ih (i + 1) S h qa bs pp dn' ls' A I (by omega) (by omega) (nj S fun _ _ => rfl) (L'.stay il) (by rw [eR]; exact (bRun_stay (fun j h0 h1 => all j (by omega) h1) _).symm)
        · have I' := bHead_I (nx := nxB s t0 z hr) I i0 hi nxt (5 * s 2).toNat (by omega)
          have ns : ¬ stpB (-1) k i S := fun q => q.elim (fun w => by have := w.1; omega) (fun w => by rw [L'.2.1 i (Int.le_refl _) il] at w; omega)
          rw [bRun, ite_t ⟨hi, ns⟩] at E
          refine c_goOnFrom A I rm ⟨i0, hi⟩ gs fw e v9 ru fun h' qa' A' => ?_
          exact ih (i + 1) _ h' qa' bs pp dn' ls' A' I' (by omega) (by omega) (nj _ fun j hj => ((bHead_ext (nx := nxB s t0 z hr) (lo := 0) (i := i) (S := S) (5 * s 2).toNat).2 j (by omega)).1) (L'.on il (by omega) I I') E
      unfold wb_X6_mostMet_131
      refine ⟨SS.o74, 77, SS.p74_7, SS.o74, 80, SS.p74_0, SS.o74, ?_⟩
      rw [c_stateAt A.C i0 hi]
      refine ⟨SS.o80, ?_⟩
      refine c_notSo (T := tuB s t0 (S.2.1 i)) SS gs hL fw e NN V fun X hX _ => ?_
      obtain ⟨n, n1, n2, n3, n4⟩ := sum_num (P := soT s (tuB s t0 (S.2.1 i)) z) gs hs' fun w w0 w1 => by
        rw [hX w w0 (by omega)]
        exact ⟨fun q => Classical.byContradiction fun r => q ⟨w1, r⟩, fun q r => r.2 q⟩
      have n4 : rd h 77 n = mvT s (tuB s t0 (S.2.1 i)) z := n4
      rw [n1]
      refine ⟨SS.o77, iI_in n2 (by rw [SS.l77]; omega) (by rw [SS.l77]; omega), fun v ev => ?_⟩
      rw [iI_cl n2 (by omega), rd_I _ _ n2, n4] at ev
      rw [ev]
      have stp := fun (S' : BS) (he : ∀ j, j ≤ i → S'.2.1 j = S.2.1 j) => J.step i0 he mn
      refine ⟨fun le => tail best p bb pbd fun S' he => (stp S' he).1 ?_, fun gt => tail _ i (by omega) (by omega) fun S' he => (stp S' he).2 ?_⟩
      · rw [iI_le (by omega) (by omega) (by omega) (by omega)] at le; exact le
      · rw [iI_le (by omega) (by omega) (by omega) (by omega)] at gt; exact gt
    unfold wb_X6_mostMet_87
    simp (disch := omega) only [CSh.o0 SS, CSh.o1 SS, CSh.o2 SS, CSh.o3 SS, CSh.o26 SS, CSh.o27 SS, CSh.o29 SS, CSh.o30 SS, CSh.o31 SS, CSh.o56 SS, CSh.o57 SS, CSh.o58 SS, CSh.o62 SS, CSh.o66 SS, CSh.o70 SS, CSh.o74 SS, CSh.o75 SS, CSh.o77 SS, CSh.o79 SS, CSh.o80 SS, CSh.o81 SS, CSh.o82 SS, CSh.o83 SS, CSh.o84 SS, CSh.o85 SS, CSh.o86 SS, CSh.o87 SS, CSh.o88 SS, CSh.o53 SS, CSh.o54 SS, CSh.o55 SS, CSh.o59 SS, CSh.o60 SS, CSh.o61 SS, CSh.o63 SS, CSh.o64 SS, CSh.o65 SS, CSh.o67 SS, CSh.o68 SS, CSh.o69 SS, CSh.o71 SS, CSh.o72 SS, CSh.o73 SS, CSh.o89 SS, CSh.o90 SS, CSh.o91 SS, CSh.l1 SS, CSh.l3 SS, CSh.l27 SS, CSh.l29 SS, CSh.l30 SS, CSh.l56 SS, CSh.l57 SS, CSh.l58 SS, CSh.l75 SS, CSh.l77 SS, CSh.l79 SS, CSh.l81 SS, CSh.l82 SS, CSh.l83 SS, CSh.l84 SS, CSh.l85 SS, CSh.l86 SS, CSh.l87 SS, CSh.l88 SS, CSh.l54 SS, CSh.l55 SS, CSh.l60 SS, CSh.l61 SS, CSh.l64 SS, CSh.l65 SS, CSh.l68 SS, CSh.l69 SS, CSh.l72 SS, CSh.l73 SS, CSh.l90 SS, CSh.l91 SS, CSh.p0_0 SS, CSh.p0_3 SS, CSh.p0_4 SS, CSh.p0_5 SS, CSh.p0_6 SS, CSh.p0_7 SS, CSh.p0_8 SS, CSh.p0_9 SS, CSh.p0_10 SS, CSh.p0_14 SS, CSh.p2_0 SS, CSh.p26_0 SS, CSh.p26_13 SS, CSh.p26_14 SS, CSh.p31_1 SS, CSh.p31_3 SS, CSh.p31_4 SS, CSh.p62_0 SS, CSh.p66_0 SS, CSh.p70_0 SS, CSh.p74_0 SS, CSh.p74_1 SS, CSh.p74_6 SS, CSh.p74_7 SS, CSh.p74_10 SS, CSh.p80_1 SS, CSh.p80_2 SS, CSh.p80_3 SS, CSh.p80_4 SS, CSh.p80_5 SS, CSh.p80_6 SS, CSh.p80_7 SS, CSh.p80_8 SS, CSh.p53_1 SS, CSh.p53_2 SS, CSh.p59_1 SS, CSh.p59_2 SS, CSh.p63_1 SS, CSh.p63_2 SS, CSh.p67_1 SS, CSh.p67_2 SS, CSh.p71_1 SS, CSh.p71_2 SS, CSh.p89_1 SS, CSh.p89_2 SS, fd0, fd1, fd2, fd3, fd4, fd5, fd6, fd7, fd8, fd9, fd10, fd11, fd12, fd13, fd14, fd15, fd16, fd17, fd18, fd19, fd20, fd21, fd22, fd23, fd24, fd25, fd26, fd27, fd28, fd29, fd30, fd31, fd32, fd33, fd34, fd35, fd36, fd37, fd38, fd39, fd40, fd41, fd42, fd43, fd44, fd45, fd46, fd47, fd48, fd49, fd50, fd51, fd52, tt, ew, -Int.reduceToNat, -Int32.reduceToNatClampNeg, il0, il1, il2, il3, il4, il5, il6, il7, il8, il9, il10, il11, il12, il13, il14, il15, il16, il17, il18, il19, il20, il21, il22, il23, il24, il25, il26, il27, il28, il29, il30, il31, il32, il35, il36, il38, il40, il42, il43, il44, il45, il46, il47, il48, il49, il50, il51, il52, il57, il59, il60, il63, il64, il75, il80, il95, il96, il97, il98, il99, il100, il120, il122, il123, il127, il128, il135, il167, il175, il225, il249, il250, il255, il256, il360, il370, il384, il600, il700, il740, il900, il940, il1024, il1600, il4800, il64000, il125000, il262143, il1000000000, iI_toInt, iI_add, iI_sub, iI_mul, iI_neg, iI_lt, iI_le, iI_eq, iI_n, iI_in, iI_div, iI_mod, iI_shm, iI_and1, iI_and7, iI_and63, iI_shr3, iI_shr6, rd_I, ob, Option.some.injEq, exists_eq_left', exists_eq_left, true_and, and_true, fqI, fqJ, eq_self, true_or, or_true, bP_0, bP_0i, npP, bP_1i, bP_b, not_true_eq_false, not_false_eq_true, false_implies, true_implies, implies_true, Classical.not_not, and_self]
    refine ⟨fun u => out (Or.inl (by omega)), fun c1 => ⟨fun u => by omega, fun _ => ⟨fun u => out (Or.inr (by omega)), fun c2 => ?_⟩⟩⟩
    have hi : i < S.1 := by omega
    obtain ⟨dn', ls', cc, L', il⟩ := L.turn hi
    rcases cc with ⟨q1, q2, q3⟩ | ⟨q1, q2, q3⟩
    · refine ⟨fun q => absurd q1 q, fun _ => ?_⟩
      rw [← q2, ← q3]
      exact go hi dn' ls' L' il
    · refine ⟨fun _ => ?_, fun q => absurd q q1⟩
      rw [← q2, ← q3]
      exact go hi dn' ls' L' il
end CMO
