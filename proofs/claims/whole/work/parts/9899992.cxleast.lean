/-! LEAST called in the class -/
section CXL
variable {h h1 h2 h' h0 g0 g : AH} {i la fr qa ac : Nat} {postV : AH → Prop} {post : AH → Int32 → Prop} {a b c d f j k v w x y pl r hr how gl goal st u p o : Int} {s t t' t0 z T : Int → Int} {S : BS}
theorem Inv.low {i' : Nat} (I : Inv h i' la fr qa ac) (r : IvR h i qa ac) : Inv h i la fr qa ac := by
  obtain ⟨c1, c2, c3, c4, c5, c6, c7, c8, c9, c10, c11, c12, c13, c14, c15, c16, c17, c18⟩ := I
  exact ⟨c1, c2, c3, c4, c5, c6, c7, c8, c9, c10, c11, c12, c13, c14, c15, c16, c17, r⟩
theorem c_isSmall (H : LB h la) (L : LR h la s) (b0 : 0 ≤ s 0 ∧ s 0 ≤ 8) (b1 : 0 ≤ s 1 ∧ s 1 ≤ 8) (b2 : 0 ≤ s 2 ∧ s 2 ≤ 8) (K1 : few s → post h (iI 1)) (K0 : ¬ few s → post h (iI 0)) : wp_X1_isSmall h la post := by
  have pr : 0 ≤ s 0 * s 1 ∧ s 0 * s 1 ≤ 64 := ⟨Int.mul_nonneg b0.1 b1.1, Int.le_trans (Int.mul_le_mul b0.2 b1.2 b1.1 (by omega)) (by decide)⟩
  have c0 := L.c0
  have c1 := L.c1
  have c5 := L.c5
  unfold few at K1 K0
  unfold wp_X1_isSmall
  simp (disch := omega) only [LB.o0 H, fd0, fd1, fd2, fd3, fd4, fd5, fd6, fd7, fd8, fd9, fd10, fd11, fd12, fd13, fd14, fd15, fd16, fd17, fd18, fd19, fd20, fd21, fd22, fd23, fd24, fd25, fd26, fd27, fd28, fd29, fd30, fd31, fd32, fd33, fd34, fd35, fd36, fd37, fd38, fd39, fd40, fd41, fd42, fd43, fd44, fd45, fd46, fd47, fd48, fd49, fd50, fd51, fd52, c0, c1, c5, -Int.reduceToNat, -Int32.reduceToNatClampNeg, il0, il1, il2, il3, il4, il5, il6, il7, il8, il9, il10, il11, il12, il13, il14, il15, il16, il17, il18, il19, il20, il21, il22, il23, il24, il25, il26, il27, il28, il29, il30, il31, il32, il35, il36, il38, il40, il42, il43, il44, il45, il46, il47, il48, il49, il50, il51, il52, il57, il59, il60, il63, il64, il75, il80, il95, il96, il97, il98, il99, il100, il120, il122, il123, il127, il128, il135, il167, il175, il225, il249, il250, il255, il256, il360, il370, il384, il600, il700, il740, il900, il940, il1024, il1600, il4800, il64000, il125000, il262143, il1000000000, iI_toInt, iI_add, iI_sub, iI_mul, iI_neg, iI_lt, iI_le, iI_eq, iI_n, iI_in, iI_div, iI_mod, iI_shm, iI_and1, iI_and7, iI_and63, iI_shr3, iI_shr6, rd_I, ob, Option.some.injEq, exists_eq_left', exists_eq_left, true_and, and_true, fqI, fqJ, eq_self, true_or, or_true, bP_0, bP_0i, npP, bP_1i, bP_b, not_true_eq_false, not_false_eq_true, false_implies, true_implies, implies_true, Classical.not_not, and_self]
  generalize s 0 * s 1 = m at *
  exact ⟨fun u => K0 (by omega), fun u => ⟨fun v => K0 (by omega), fun v => K1 (by omega)⟩⟩
theorem cX_least (I : Inv h i la fr qa ac) (hi512 : i ≤ 512) (hx : -2147483648 ≤ hr ∧ hr < 2147483648)
    (KN : ∀ h', ¬ (byOK (rd h 94) (bT h) (rd h 92 2) ∧ (0 ≤ hr ∧ hr < 24) ∧ few (rd h 94)) → Gr [0, 60] [61] [(59, 0)] h h' → aN h' = aN h → aS h' = aS h → rd h' 0 = updT (rd h 0) 1 0 → (byOK (rd h 94) (bT h) (rd h 92 2) → VT (rd h 94) (byC (rd h 94) (bT h)) (zC (rd h 94))) → post h' (iI (-2)))
    (K0 : ∀ h1 h' qa' goal, byOK (rd h 94) (bT h) (rd h 92 2) ∧ (0 ≤ hr ∧ hr < 24) ∧ few (rd h 94) → VT (rd h 94) (byC (rd h 94) (bT h)) (zC (rd h 94)) → goal = cdB (rd h 94) (byC (rd h 94) (bT h)) → Gr [0, 60] [61] [(59, 0)] h h1 → aN h1 = aN h → aS h1 = aS h → rd h1 0 = updT (rd h 0) 1 0 → ¬ seenB (runL (rd h 94) (tS (rd h 94)) (zC (rd h 94)) hr goal) goal → SO h1 h' qa ac qa' ac (-1) (fun _ => 0) → post h' (iI (-1)))
    (K1 : ∀ h1 h' qa' ac' goal pl, byOK (rd h 94) (bT h) (rd h 92 2) ∧ (0 ≤ hr ∧ hr < 24) ∧ few (rd h 94) → VT (rd h 94) (byC (rd h 94) (bT h)) (zC (rd h 94)) → goal = cdB (rd h 94) (byC (rd h 94) (bT h)) → Gr [0, 60] [61] [(59, 0)] h h1 → aN h1 = aN h → aS h1 = aS h → rd h1 0 = updT (rd h 0) 1 0 → 0 ≤ pl → pl < (runL (rd h 94) (tS (rd h 94)) (zC (rd h 94)) hr goal).1 → (runL (rd h 94) (tS (rd h 94)) (zC (rd h 94)) hr goal).2.1 pl = goal → SO h1 h' qa ac qa' ac' (dpt (runL (rd h 94) (tS (rd h 94)) (zC (rd h 94)) hr goal).2.2.1 pl) (fun k => dcd ((runL (rd h 94) (tS (rd h 94)) (zC (rd h 94)) hr goal).2.2.2 (anc (runL (rd h 94) (tS (rd h 94)) (zC (rd h 94)) hr goal).2.2.1 k pl))) → post h' (iI (dpt (runL (rd h 94) (tS (rd h 94)) (zC (rd h 94)) hr goal).2.2.1 pl))) : wp_X11_least h 0 (iI hr) post := by
  obtain ⟨S, M, hl, hp, H, L, T, hG, hZ⟩ := I.core
  have bd := hG.bd
  obtain ⟨q1, q2, q3, q4, q5, q6, q7, q8, q9, q10, q11⟩ := I.q
  have lt := fun (a : Nat) (ha : a ≤ 118) => I.lt ha
  have n0 : 119 ≤ aN h := lt 118 (by omega)
  have rm : aN h ≤ 400000 ∧ aS h ≤ 4000000 := by have := I.room hi512; omega
  rw [show (iI (-2)) = (-2 : Int32) from rfl] at KN
  unfold wp_X11_least
  simp (disch := omega) only [CSh.o0 S, CSh.o1 S, CSh.o2 S, CSh.o3 S, CSh.o26 S, CSh.o27 S, CSh.o29 S, CSh.o30 S, CSh.o31 S, CSh.o56 S, CSh.o57 S, CSh.o58 S, CSh.o62 S, CSh.o66 S, CSh.o70 S, CSh.o74 S, CSh.o75 S, CSh.o77 S, CSh.o79 S, CSh.o80 S, CSh.o81 S, CSh.o82 S, CSh.o83 S, CSh.o84 S, CSh.o85 S, CSh.o86 S, CSh.o87 S, CSh.o88 S, CSh.o53 S, CSh.o54 S, CSh.o55 S, CSh.o59 S, CSh.o60 S, CSh.o61 S, CSh.o63 S, CSh.o64 S, CSh.o65 S, CSh.o67 S, CSh.o68 S, CSh.o69 S, CSh.o71 S, CSh.o72 S, CSh.o73 S, CSh.o89 S, CSh.o90 S, CSh.o91 S, CSh.l1 S, CSh.l3 S, CSh.l27 S, CSh.l29 S, CSh.l30 S, CSh.l56 S, CSh.l57 S, CSh.l58 S, CSh.l75 S, CSh.l77 S, CSh.l79 S, CSh.l81 S, CSh.l82 S, CSh.l83 S, CSh.l84 S, CSh.l85 S, CSh.l86 S, CSh.l87 S, CSh.l88 S, CSh.l54 S, CSh.l55 S, CSh.l60 S, CSh.l61 S, CSh.l64 S, CSh.l65 S, CSh.l68 S, CSh.l69 S, CSh.l72 S, CSh.l73 S, CSh.l90 S, CSh.l91 S, CSh.p0_0 S, CSh.p0_3 S, CSh.p0_4 S, CSh.p0_5 S, CSh.p0_6 S, CSh.p0_7 S, CSh.p0_8 S, CSh.p0_9 S, CSh.p0_10 S, CSh.p0_14 S, CSh.p2_0 S, CSh.p26_0 S, CSh.p26_13 S, CSh.p26_14 S, CSh.p31_1 S, CSh.p31_3 S, CSh.p31_4 S, CSh.p62_0 S, CSh.p66_0 S, CSh.p70_0 S, CSh.p74_0 S, CSh.p74_1 S, CSh.p74_6 S, CSh.p74_7 S, CSh.p74_10 S, CSh.p80_1 S, CSh.p80_2 S, CSh.p80_3 S, CSh.p80_4 S, CSh.p80_5 S, CSh.p80_6 S, CSh.p80_7 S, CSh.p80_8 S, CSh.p53_1 S, CSh.p53_2 S, CSh.p59_1 S, CSh.p59_2 S, CSh.p63_1 S, CSh.p63_2 S, CSh.p67_1 S, CSh.p67_2 S, CSh.p71_1 S, CSh.p71_2 S, CSh.p89_1 S, CSh.p89_2 S, hp, ob, Option.some.injEq, exists_eq_left', exists_eq_left, true_and, and_true, fqI, fqJ, eq_self, true_or, or_true, bP_0, bP_0i, npP, bP_1i, bP_b, not_true_eq_false, not_false_eq_true, false_implies, true_implies, implies_true, Classical.not_not, and_self]
  refine c_laySpare I fun h1 g eN eS e0 hT => ?_
  have S1 := S.gr g
  have hp1 : aP h1 31 0 = some la := (g.dyn (S.o31).2 (by decide)).trans hp
  by_cases cb : byOK (rd h 94) (bT h) (rd h 92 2)
  case neg => rw [bP_f cb]; exact ⟨fun _ => KN h1 (fun q => cb q.1) g eN eS e0 (fun q => (hT q).2), fun q => absurd rfl q⟩
  rw [bP_t cb]
  obtain ⟨TR2, V2⟩ := hT cb
  refine ⟨fun q => absurd q i10, fun _ => (c_isHour hx.1 hx.2).mpr ?_⟩
  by_cases c2 : 0 ≤ hr ∧ hr < 24
  case neg => rw [bP_f c2]; exact ⟨fun _ => KN h1 (fun q => c2 q.2.1) g eN eS e0 (fun q => (hT q).2), fun q => absurd rfl q⟩
  rw [bP_t c2]
  have H1 : LB h1 la := H.gr g (by omega)
  have L1 : LR h1 la (rd h 94) := L.grw H g (fun j hj => by simp; omega) (fun j hj => by simp; omega)
  refine ⟨fun q => absurd q i10, fun _ => ⟨S1.o0, 31, S1.p0_5, S1.o31, la, hp1, H1.o0, c_isSmall H1 L1 bd.1 bd.2.1 bd.2.2.1 (fun fw => ⟨fun _ => ?_, fun q => absurd q i10⟩) (fun nf => ⟨fun q => absurd rfl q, fun _ => KN h1 (fun q => nf q.2.2) g eN eS e0 (fun q => (hT q).2)⟩)⟩⟩
  obtain ⟨-, -, -, -, ⟨_, _, _, ru, v9⟩, -⟩ := id hG
  have bd2 := bd.2.2.1
  have T1 : TR h1 53 la (rd h 94) (tS (rd h 94)) (zC (rd h 94)) := T.gr g (by intro k hk; unfold DynP; simp [hk]) (by simp) (by simp) (by simp)
  have TM : TR h1 59 la (rd h 94) (mrg (rd h 94) (tS (rd h 94)) (byC (rd h 94) (bT h))) (zC (rd h 94)) := by
    obtain ⟨B, p, w1, w2⟩ := TR2
    have k := fun o (o0 : 0 ≤ o) (o1 : o < rd h 94 2) => spot_c (s := rd h 94) (z := zC (rd h 94)) (t := byC (rd h 94) (bT h)) (t' := mrg (rd h 94) (tS (rd h 94)) (byC (rd h 94) (bT h))) (o := o) (mrg_in (by omega) (by omega)) (mrg_in (by omega) (by omega)) (mrg_in (by omega) (by omega))
    exact ⟨B, p, fun o o0 o1 => by rw [(k o o0 o1).2.1]; exact w1 o o0 o1, fun o o0 o1 x y x0 x1 y0 y1 => by rw [(k o o0 o1).2.2.2.2.2.1]; exact w2 o o0 o1 x y x0 x1 y0 y1⟩
  have ec : cdB (rd h 94) (mrg (rd h 94) (tS (rd h 94)) (byC (rd h 94) (bT h))) = cdB (rd h 94) (byC (rd h 94) (bT h)) := cdB_cg bd2.1 fw.1 (fun j j0 j1 => mrg_in j0 j1)
  refine ⟨S1.o0, 74, S1.p0_14, S1.o0, 31, S1.p0_5, S1.o31, la, hp1, S1.o0, 31, S1.p0_5, S1.o31, 53, S1.p31_1, S1.o0, 59, S1.p0_7, S1.o74, ?_⟩
  refine c_leastActs S1 H1 L1 (by omega) hG.1 fw (EZ.c _) v9 ru T1 hG.vt TM (V2.cgB fun j j0 j1 => mrg_in j0 j1) (fun j hj => mrg_out hj) c2 (by omega) (by omega) ((g.dyn S.o74.2 (by decide)).trans q1) (g.ob q2) (by rw [g.len q2.2]; exact q3) ((g.dyn S.o74.2 (by decide)).trans q4) (g.ob q5) (by rw [g.len q5.2]; exact q6) q10 q11 (fun h' qa' ns O => ?_) (fun h' qa' ac' pl p0 p1 pg O => ?_)
  · rw [ec] at ns
    exact K0 h1 h' qa' _ ⟨cb, c2, fw⟩ V2 rfl g eN eS e0 ns O
  · rw [ec] at p1 pg O ⊢
    exact K1 h1 h' qa' ac' _ pl ⟨cb, c2, fw⟩ V2 rfl g eN eS e0 p0 p1 pg O
end CXL
