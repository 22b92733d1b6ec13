/-! changed() in the class -/
section CXH
variable {h h1 h2 h' h0 g0 g : AH} {i la fr qa ac tw : Nat} {postV : AH → Prop} {post : AH → Int32 → Prop} {a b c d f j k v w x y pl r hr how gl goal st u p o : Int} {s t t' t0 z T : Int → Int} {S : BS}
theorem TR.ts (R : TR h tw la s t z) (hG : GS s) (e : EZ z s) (hV : VT s t z) : TS h tw s t z (s 2) := by
  obtain ⟨⟨hS, n0, n1, n2, n3, n4, n5, hK, hW⟩, hD, hPo, hNe⟩ := hG
  intro r r1 r2
  have V := hV r r1 r2
  refine ⟨R.2.2.1 r r1 r2, V.1, zb_ext fun k k0 k1 => ?_⟩
  have e1 := R.2.2.2 r r1 r2 (k % 8) (k / 8) (by omega) (by omega) (by omega) (by omega)
  have e2 := zb_spot V.1 (in8_of n0 n1 V.2.1) (Z1.of e hD r1 r2 n2) (x := k % 8) (y := k / 8) (by omega) (by omega) (by omega) (by omega)
  rw [show 8 * (k / 8) + k % 8 = k by omega] at e1 e2
  exact e1.trans e2.symm
theorem ch_spot (hV : VT s t z) (a0 : 0 ≤ a ∧ a < s 2) (b0 : 0 ≤ b ∧ b < s 2) (ne : a ≠ b) (r1 : 0 ≤ r) (r2 : r < s 2) : Spot (chT t a b) z r := by
  have A := (hV a a0.1 a0.2).1
  have B := (hV b b0.1 b0.2).1
  by_cases ca : r = a
  · subst ca
    obtain ⟨e0, e1, e2⟩ := chT_a (t := t) ne
    unfold Spot
    rw [e0, e1, e2]
    exact ⟨B.1, B.2.1, A.2.2.1, A.2.2.2⟩
  by_cases cb : r = b
  · subst cb
    obtain ⟨e0, e1, e2⟩ := chT_b (t := t) (a := a) ne
    unfold Spot
    rw [e0, e1, e2]
    exact ⟨A.1, A.2.1, B.2.2.1, B.2.2.2⟩
  exact (spot_c (s := s) (chT_n (by omega) (by omega)) (chT_n (by omega) (by omega)) (chT_n (by omega) (by omega))).1.mpr (hV r r1 r2).1
theorem ch_enc (hV : VT s t z) (a0 : 0 ≤ a ∧ a < s 2) (b0 : 0 ≤ b ∧ b < s 2) (ne : a ≠ b) : enc t a / 64 * 64 + enc t b % 64 = enc (chT t a b) a ∧ enc t b / 64 * 64 + enc t a % 64 = enc (chT t a b) b := by
  have A := enc_nums (hV a a0.1 a0.2).1
  have B := enc_nums (hV b b0.1 b0.2).1
  obtain ⟨e0, e1, e2⟩ := chT_a (t := t) ne
  obtain ⟨f0, f1, f2⟩ := chT_b (t := t) (a := a) ne
  rw [A.2.2.2.1, A.2.2.2.2, B.2.2.2.1, B.2.2.2.2]
  unfold enc
  rw [e0, e1, e2, f0, f1, f2]
  omega
theorem iI_cl (h1 : 0 ≤ a) (h2 : a < 2147483648) : (iI a).toNatClampNeg = a.toNat := by rw [iI_n h1 h2]
theorem cX_changed (I : Inv h i la fr qa ac) (hi512 : i ≤ 512) (ha : -2147483648 ≤ a ∧ a < 2147483648) (hb : -2147483648 ≤ b ∧ b < 2147483648) (hx : -2147483648 ≤ hr ∧ hr < 2147483648)
    (KN : ∀ h', ¬ chOk (rd h 94) a b hr → Gr [60] [61] [(59, 0)] h h' → aN h' = aN h → aS h' = aS h → post h' (iI (-2)))
    (K0 : ∀ h1 h' qa' goal, chOk (rd h 94) a b hr → goal = cdB (rd h 94) (chT (tS (rd h 94)) a b) → Gr [60] [61] [(59, 0)] h h1 → aN h1 = aN h → aS h1 = aS h → ¬ seenB (runL (rd h 94) (tS (rd h 94)) (zC (rd h 94)) hr goal) goal → SO h1 h' qa ac qa' ac (-1) (fun _ => 0) → post h' (iI (-1)))
    (K1 : ∀ h1 h' qa' ac' goal pl, chOk (rd h 94) a b hr → goal = cdB (rd h 94) (chT (tS (rd h 94)) a b) → Gr [60] [61] [(59, 0)] h h1 → aN h1 = aN h → aS h1 = aS h → 0 ≤ pl → pl < (runL (rd h 94) (tS (rd h 94)) (zC (rd h 94)) hr goal).1 → (runL (rd h 94) (tS (rd h 94)) (zC (rd h 94)) hr goal).2.1 pl = goal → SO h1 h' qa ac qa' ac' (dpt (runL (rd h 94) (tS (rd h 94)) (zC (rd h 94)) hr goal).2.2.1 pl) (fun k => dcd ((runL (rd h 94) (tS (rd h 94)) (zC (rd h 94)) hr goal).2.2.2 (anc (runL (rd h 94) (tS (rd h 94)) (zC (rd h 94)) hr goal).2.2.1 k pl))) → post h' (iI (dpt (runL (rd h 94) (tS (rd h 94)) (zC (rd h 94)) hr goal).2.2.1 pl))) : wp_X11_changed h 0 (iI a) (iI b) (iI hr) post := by
  obtain ⟨S, M, hl, hp, H, L, T, hG, hZ⟩ := I.core
  have bdd := hG.bd
  have bd := hG.bd.2.2.1
  have gs := hG.1
  have V := hG.vt
  obtain ⟨q1, q2, q3, q4, q5, q6, q7, q8, q9, q10, q11⟩ := I.q
  have lt := fun (a : Nat) (ha : a ≤ 118) => I.lt ha
  have n0 : 119 ≤ aN h := lt 118 (by omega)
  have rm : aN h ≤ 400000 ∧ aS h ≤ 4000000 := by have := I.room hi512; omega
  rw [show (iI (-2)) = (-2 : Int32) from rfl] at KN
  have g0 : Gr [60] [61] [(59, 0)] h h := ⟨by simp [DynP], Nat.le_refl _, fun _ _ => ⟨rfl, rfl⟩, fun _ _ _ => rfl, fun _ _ _ => rfl, fun _ _ _ _ => rfl⟩
  have no : ¬ chOk (rd h 94) a b hr → post h (-2) := fun n => KN h n g0 rfl rfl
  unfold wp_X11_changed
  refine ⟨S.o0, (c_isRaft I ha.1 ha.2).mpr ?_⟩
  by_cases c1 : 0 ≤ a ∧ a < rd h 94 2
  case neg => rw [bP_f c1]; exact ⟨fun _ => no fun q => c1 q.1, fun q => absurd rfl q⟩
  rw [bP_t c1]
  refine ⟨fun q => absurd q i10, fun _ => ⟨S.o0, (c_isRaft I hb.1 hb.2).mpr ?_⟩⟩
  by_cases c2 : 0 ≤ b ∧ b < rd h 94 2
  case neg => rw [bP_f c2]; exact ⟨fun _ => no fun q => c2 q.2.1, fun q => absurd rfl q⟩
  rw [bP_t c2]
  refine ⟨fun q => absurd q i10, fun _ => ⟨fun q => no fun w => w.2.2.1 ((iI_eq (by omega) (by omega) (by omega) (by omega)).mp q), fun nq => (c_isHour hx.1 hx.2).mpr ?_⟩⟩
  have c3 : a ≠ b := fun e => nq (by rw [e])
  by_cases c4 : 0 ≤ hr ∧ hr < 24
  case neg => rw [bP_f c4]; exact ⟨fun _ => no fun q => c4 q.2.2.2.1, fun q => absurd rfl q⟩
  rw [bP_t c4]
  refine ⟨fun q => absurd q i10, fun _ => ⟨S.o0, 31, S.p0_5, S.o31, la, hp, H.o0, c_isSmall H L bdd.1 bdd.2.1 bd (fun c5 => ⟨fun _ => ?_, fun q => absurd q i10⟩) (fun nf => ⟨fun q => absurd rfl q, fun _ => no fun q => nf q.2.2.2.2.1⟩)⟩⟩
  have D := T.ts gs (EZ.c _) V
  have en := ch_enc V c1 c2 c3
  have sA := ch_spot V c1 c2 c3 c1.1 c1.2
  have sB := ch_spot V c1 c2 c3 c2.1 c2.2
  have nA := enc_nums sA
  have nB := enc_nums sB
  have oA := enc_nums (V a c1.1 c1.2).1
  have oB := enc_nums (V b c2.1 c2.2).1
  refine ⟨S.o0, 59, S.p0_7, S.o0, 31, S.p0_5, S.o31, la, hp, S.o0, 31, S.p0_5, S.o31, 53, S.p31_1, S.o59, ?_⟩
  refine c_follow S.t59 S.t53 (by decide) fun h1 f1 p0 pj rs rj => ?_
  have g1 : Gr [60] [61] [(59, 0)] h h1 := f1.gr1 (by decide) pj
  have S1 := S.gr g1
  have H1 : LB h1 la := H.gr g1 (by omega)
  have L1 : LR h1 la (rd h 94) := L.grw H g1 (fun j hj => by simp; omega) (fun j hj => by simp; omega)
  have e54 : rd h1 54 = rd h 54 := f1.row (by decide)
  have l54 : aL h1 54 = 8 := S1.t53.l1
  refine ⟨S1.o0, 31, S1.p0_5, S1.o31, 53, S1.p31_1, S1.t53.o0, 54, S1.t53.p1, S1.t53.o1, iI_in c1.1 (by rw [l54]; omega) (by rw [l54]; omega), fun x ex => ⟨S1.o0, 31, S1.p0_5, S1.o31, 53, S1.p31_1, S1.t53.o0, 54, S1.t53.p1, S1.t53.o1, iI_in c2.1 (by rw [l54]; omega) (by rw [l54]; omega), fun y ey => ⟨S1.o0, 59, S1.p0_7, S1.o59, ?_⟩⟩⟩
  rw [iI_cl c1.1 ha.2, rd_I _ _ c1.1, e54, show rd h 54 a = _ from T.2.2.1 a c1.1 c1.2] at ex
  rw [iI_cl c2.1 hb.2, rd_I _ _ c2.1, e54, show rd h 54 b = _ from T.2.2.1 b c2.1 c2.2] at ey
  rw [ex, ey, tp_I oA.1.1 oA.1.2 oB.1.1 oB.1.2, tp_I oB.1.1 oB.1.2 oA.1.1 oA.1.2, en.1, en.2]
  refine c_put H1 L1 S1.t59 p0 (by unfold LD; omega) gs.2.1 bd.2 c1.1 c1.2 nA.1.1 nA.1.2 fun h2 f2 r2 j2 => ?_
  have g2 : Gr [60] [61] [(59, 0)] h h2 := g1.trans (f2.gr.mono (by simp) (by simp) (by simp) (by simp [DynP]))
  have S2 := S.gr g2
  have p2 : aP h2 59 0 = some la := by rw [f2.aPe]; exact p0
  refine ⟨S2.o0, 59, S2.p0_7, S2.o59, ?_⟩
  refine c_put (H.gr g2 (by omega)) (L.grw H g2 (fun j hj => by simp; omega) (fun j hj => by simp; omega)) S2.t59 p2 (by unfold LD; omega) gs.2.1 bd.2 c2.1 c2.2 nB.1.1 nB.1.2 fun h3 f3 r3 j3 => ?_
  have g3 : Gr [60] [61] [(59, 0)] h h3 := g2.trans (f3.gr.mono (by simp) (by simp) (by simp) (by simp [DynP]))
  have S3 := S.gr g3
  have p3 : aP h3 59 0 = some la := by rw [f3.aPe]; exact p2
  have eN : aN h3 = aN h := by rw [f3.1, f2.1, f1.1]
  have eS : aS h3 = aS h := by rw [f3.2.1, f2.2.1, f1.2.1]
  have H3 : LB h3 la := H.gr g3 (by omega)
  have L3 : LR h3 la (rd h 94) := L.grw H g3 (fun j hj => by simp; omega) (fun j hj => by simp; omega)
  have hp3 : aP h3 31 0 = some la := (g3.dyn (S.o31).2 (by decide)).trans hp
  have T3 : TR h3 53 la (rd h 94) (tS (rd h 94)) (zC (rd h 94)) := T.gr g3 (by intro k hk; unfold DynP; simp [hk]) (by simp) (by simp) (by simp)
  have Q3 : TS h3 59 (rd h 94) (chT (tS (rd h 94)) a b) (zC (rd h 94)) (rd h 94 2) := by
    intro r r1 r2'
    refine ⟨?_, ch_spot V c1 c2 c3 r1 r2', ?_⟩
    · rw [r3]
      by_cases cb : r = b
      · rw [cb, updT_s]
      rw [updT_n cb, r2]
      by_cases ca : r = a
      · rw [ca, updT_s]
      rw [updT_n ca, rs r r1 (by omega), show rd h (53 + 1) r = _ from T.2.2.1 r r1 r2', (spot_c (s := rd h 94) (z := zC (rd h 94)) (t := tS (rd h 94)) (t' := chT (tS (rd h 94)) a b) (o := r) (chT_n (by omega) (by omega)) (chT_n (by omega) (by omega)) (chT_n (by omega) (by omega))).2.1]
    · rw [j3]
      by_cases cb : r = b
      · rw [cb, if_pos rfl, (wsp_enc (EZ.c _) c2.1 (by omega) sB).1, (wsp_enc (EZ.c _) c2.1 (by omega) sB).2]
      rw [if_neg (by omega), j2]
      by_cases ca : r = a
      · rw [ca, if_pos rfl, (wsp_enc (EZ.c _) c1.1 (by omega) sA).1, (wsp_enc (EZ.c _) c1.1 (by omega) sA).2]
      obtain ⟨-, k2, k3, k4, -⟩ := spot_c (s := rd h 94) (z := zC (rd h 94)) (t := tS (rd h 94)) (t' := chT (tS (rd h 94)) a b) (o := r) (chT_n (by omega) (by omega)) (chT_n (by omega) (by omega)) (chT_n (by omega) (by omega))
      rw [if_neg (by omega), rj r r1 (by omega), k2, k3, k4]
      exact (D r r1 r2').2.2
  refine ⟨S3.o0, 59, S3.p0_7, S3.o59, (c_isSound H3 L3 S3.t59 p3 gs (EZ.c _) Q3).mpr ?_⟩
  by_cases c6 : townT (rd h 94) (chT (tS (rd h 94)) a b) (zC (rd h 94))
  case neg => rw [bP_f c6]; exact ⟨fun q => absurd rfl q, fun _ => KN h3 (fun q => c6 q.2.2.2.2.2) g3 eN eS⟩
  rw [bP_t c6]
  have ok : chOk (rd h 94) a b hr := ⟨c1, c2, c3, c4, c5, c6⟩
  have V2 := town_vt (fun r r1 r2 => ch_spot V c1 c2 c3 r1 r2) c6
  have TM : TR h3 59 la (rd h 94) (chT (tS (rd h 94)) a b) (zC (rd h 94)) := Q3.tr S3.t59 p3 fun r r1 r2 => ⟨in8_of bdd.1.2 bdd.2.1.2 (V2 r r1 r2).2.1, Z1.of (EZ.c _) gs.2.1 r1 r2 bd.2⟩
  obtain ⟨-, -, -, -, ⟨_, _, _, ru, v9⟩, -⟩ := id hG
  refine ⟨fun _ => ⟨S3.o0, 74, S3.p0_14, S3.o0, 31, S3.p0_5, S3.o31, la, hp3, S3.o0, 31, S3.p0_5, S3.o31, 53, S3.p31_1, S3.o0, 59, S3.p0_7, S3.o74, ?_⟩, fun q => absurd q i10⟩
  refine c_leastActs S3 H3 L3 (by omega) gs c5 (EZ.c _) v9 ru T3 V TM V2 (fun j hj => chT_out c1 c2 hj) c4 (by omega) (by omega) ((g3.dyn S.o74.2 (by decide)).trans q1) (g3.ob q2) (by rw [g3.len q2.2]; exact q3) ((g3.dyn S.o74.2 (by decide)).trans q4) (g3.ob q5) (by rw [g3.len q5.2]; exact q6) q10 q11 (fun h' qa' ns O => ?_) (fun h' qa' ac' pl p0 p1 pg O => ?_)
  · exact K0 h3 h' qa' _ ok rfl g3 eN eS ns O
  · exact K1 h3 h' qa' ac' _ pl ok rfl g3 eN eS p0 p1 pg O
end CXH
