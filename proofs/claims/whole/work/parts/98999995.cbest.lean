/-! best() in the class -/
section CBE
variable {h h1 h2 h' h0 g0 g : AH} {i : Nat} {qa0 qa ac la fr tw : Nat} {postV : AH → Prop} {post : AH → Int32 → Prop} {a b c d f j k v w x y pl r hr how gl goal st u p o dn ls best : Int} {s t t' t0 z T : Int → Int} {S R0 : BS} {zr : Int64}
theorem Gr.refl0 (h : AH) {wi wj : List Nat} {wq : List (Nat × Nat)} (hq : ∀ p, p ∈ wq → p ∈ DynP) : Gr wi wj wq h h := ⟨hq, Nat.le_refl _, fun _ _ => ⟨rfl, rfl⟩, fun _ _ _ => rfl, fun _ _ _ => rfl, fun _ _ _ _ => rfl⟩
theorem c_mostMet (S : CSh h) (H : LB h la) (L : LR h la s) (hl : la = 5 ∨ la = 32) (gs : GS s) (hL : WLi s) (fw : few s) (e : EZ z s) (v9 : ∀ k, 0 ≤ k → k < s 4 → s (135 + 4 * k + 2) ≤ 9) (ru : RUq s) (R1 : TR h 53 la s t z) (V1 : VT s t z) (hh : 0 ≤ hr ∧ hr < 24) (hk : 0 ≤ k ∧ k ≤ 60) (n0 : 119 ≤ aN h) (rm : aN h ≤ 390000 ∧ aS h ≤ 3700000)
    (q1 : aP h 74 2 = some qa) (q2 : ob h qa 14) (q3 : 256 ≤ aL h qa ∧ aL h qa ≤ 128000) (q4 : aP h 74 8 = some ac) (q5 : ob h ac 13) (q6 : 64 ≤ aL h ac ∧ aL h ac ≤ 128000) (q10 : qa = 76 ∨ 119 ≤ qa) (q11 : ac = 78 ∨ 119 ≤ ac)
    (eR : R0 = bRun (nxB s t z hr) 0 (5 * s 2).toNat (stpB (-1) k) 64000 0 (bGo (cdB s t)))
    (K : ∀ h' qa' ac' best pl, finB (fun v => mvT s (tuB s t v) z) R0 best pl → SO h h' qa ac qa' ac' (dpt R0.2.2.1 pl) (fun k => dcd (R0.2.2.2 (anc R0.2.2.1 k pl))) → post h' (iI best)) : wp_X6_mostMet h 74 la 53 (iI k) (iI hr) post := by
  obtain ⟨VS, eS⟩ := VB.of (t0 := t) gs fw e V1 (fun _ _ => rfl)
  have ecs : csB s t (cdB s t) = csT s t := by unfold csB; rw [eS]
  have ok1 := csT_ok gs fw e V1
  have okn1 := ok1.1.1
  have b5 := gs.1.1 5 (by omega) (by omega)
  have n5 := gs.1.2.2.2.2.2.2.1
  have hw : ∀ w, 0 ≤ w → w < s 5 → 0 ≤ s (175 + 5 * w + 4) ∧ s (175 + 5 * w + 4) ≤ 99 := fun w w0 w1 => gs.1.1 _ (by omega) (by omega)
  unfold wp_X6_mostMet
  refine ⟨S.o74, 80, S.p74_0, S.o80, c_list S H L hl gs fw v9 fun g0 g1 eg F1 B1 T1 => ?_⟩
  have G0 : Gr [] [] [(80, 0)] h g0 := by rw [eg]; exact gr_hP1 (k := 0) (by decide)
  have Sg0 := S.gr G0
  have S1 := Sg0.gr F1.gr
  have H0 : LB g0 la := H.gr G0 (by omega)
  have L0 : LR g0 la s := L.grw H G0 (fun j _ => List.not_mem_nil) (fun j _ => List.not_mem_nil)
  have H1 : LB g1 la := H0.gr F1.gr (by omega)
  have L1 : LR g1 la s := L0.fr F1 (fun j hj => by simp; omega) (fun j hj => by simp; omega)
  have p1 : aP g1 80 0 = some la := by rw [F1.aPe, eg, aP_hP, if_pos rfl]
  refine ⟨S1.o74, 80, S1.p74_0, S1.o80, c_link S1 H1 L1 hl p1 gs fw e B1 hh.1 hh.2 fun g2 F2 K2 => ?_⟩
  have S2 := S1.gr F2.gr
  have H2 : LB g2 la := H1.gr F2.gr (by omega)
  have L2 : LR g2 la s := L1.fr F2 (fun j hj => by simp; omega) (fun j hj => List.not_mem_nil)
  have p2 : aP g2 80 0 = some la := by rw [F2.aPe]; exact p1
  have B2 : BL3 g2 s := B1.cg (F2.row (by simp)) (F2.row (by simp)) (F2.2.2.2.2.2.1 83 (by simp)) (F2.row (by simp))
  have T2 : TG3 g2 s := T1.cg (F2.row (by simp)) (F2.2.2.2.2.2.1 83 (by simp)) (F2.2.2.2.2.2.1 86 (by simp))
  have G2 : Gr sWi (sWj qa) sWq h g2 := ((G0.mono (wi' := sWi) (wj' := sWj qa) (wq' := sWq) (by simp) (by simp) (by unfold sWq; simp) (by unfold sWq; decide)).via F1.gr (fun a _ q => by unfold sWi; simp at q ⊢; omega) (fun a _ q => by unfold sWj; simp at q ⊢; omega) (fun _ _ _ q => absurd q List.not_mem_nil)).via F2.gr (fun a _ q => by unfold sWi; simp at q ⊢; omega) (fun _ _ q => absurd q List.not_mem_nil) (fun _ _ _ q => absurd q List.not_mem_nil)
  have R12 : TR g2 53 la s t z := ((R1.gr G0 (by intro k hk; unfold DynP; simp [hk]) (by simp) (by simp) (by simp)).gr F1.gr (by intro k hk; unfold DynP; simp [hk]) (by simp) (by simp) (by simp)).gr F2.gr (by intro k hk; unfold DynP; simp [hk]) (by simp) (by simp) (by simp)
  refine ⟨S2.o74, 80, S2.p74_0, S2.o80, c_stateOf S2 H2 L2 p2 gs fw e B2 R12 V1 ⟨S2.o74, ?_⟩⟩
  have eN : aN g2 = aN h := by rw [F2.1, F1.1, eg]; rfl
  have eA : aS g2 = aS h := by rw [F2.2.1, F1.2.1, eg]; rfl
  have lq : aL g2 qa = aL h qa := G2.len q2.2
  rw [show (-1 : Int32) = iI (-1) from rfl]
  refine c_start S2 n0 (by omega) G2 eN eA (by rw [F2.aPe, F1.aPe]; exact (G0.dyn S.o74.2 (by decide)).trans q1) (G2.ob q2) (by rw [lq]; exact q3) lq q10 (fun j hj => by rw [F2.row (by simp), F1.row (by simp), eg]; rfl) (by omega) (by omega) fun g3 qa3 C3 G3 z3 ro3 => ?_
  have S3 := C3.S
  have qd3 := C3.qd
  have s3 : ∀ w, okS w → ¬ snB g3 w := fun w hw => by
    obtain ⟨w0, w1, w2⟩ := hw
    unfold snB
    rw [z3 _ (by omega)]
    exact zb_0 _
  have H3 : LB g3 la := H2.gr G3 (by omega)
  have L3 : LR g3 la s := L2.grw H2 G3 (fun j hj => by simp; omega) (fun j hj => by simp; omega)
  refine ⟨S3.o74, c_isNew S3 ok1.1 (fun g4 _ f4 s4 => ?_) (fun q => absurd q (s3 _ ok1.1))⟩
  have S4 := S3.gr f4.gr
  have H4 : LB g4 la := H3.gr f4.gr (by omega)
  have L4 : LR g4 la s := L3.grw H3 f4.gr (fun j _ => List.not_mem_nil) (fun j hj => by simp; omega)
  have p4 : aP g4 80 0 = some la := by rw [f4.aPe]; exact (G3.dyn S2.o80.2 (by decide)).trans p2
  have q83 : (83 : Nat) ∉ [75, qa] := by simp; omega
  have q86 : (86 : Nat) ∉ [75, qa] := by simp; omega
  have r82 : rd g4 82 = rd g2 82 := by rw [f4.row (by simp), G3.row S2.o82.2 (by simp)]
  have j83 : aJ g4 83 = aJ g2 83 := by rw [f4.2.2.2.2.2.1 83 (by simp)]; exact G3.jow S2.o83.2 q83
  have B4 : BL3 g4 s := B2.cg (by rw [f4.row (by simp), G3.row S2.o81.2 (by simp)]) r82 j83 (by rw [f4.row (by simp), G3.row S2.o84.2 (by simp)])
  have T4 : TG3 g4 s := T2.cg r82 j83 (by rw [f4.2.2.2.2.2.1 86 (by simp)]; exact G3.jow S2.o86.2 q86)
  have K4 : LK g4 s z hr := K2.cg (by rw [f4.row (by simp), G3.row S2.o85.2 (by simp)])
  refine ⟨S4.o74, 80, S4.p74_0, S4.o80, c_weigh S4 H4 L4 hl p4 gs hL fw B4 fun g5 F5 N5 => ?_⟩
  have S5 := S4.gr F5.gr
  have H5 : LB g5 la := H4.gr F5.gr (by omega)
  have L5 : LR g5 la s := L4.fr F5 (fun j hj => by simp; omega) (fun j hj => by simp; omega)
  have B5 : BL3 g5 s := B4.cg (F5.row (by simp)) (F5.row (by simp)) (F5.2.2.2.2.2.1 83 (by simp)) (F5.row (by simp))
  refine ⟨H5.o0, la + 16, H5.p15, S5.o74, 77, S5.p74_7, H5.o16, c_sumUp S5 H5 L5 hl ⟨b5.1, n5⟩ hw fun g6 F6 hs6 => ?_⟩
  have S6 := S5.gr F6.gr
  have H6 : LB g6 la := H5.gr F6.gr (by omega)
  have L6 : LR g6 la s := L5.fr F6 (fun j hj => by simp; omega) (fun j hj => by simp)
  have F46 : Fr [77, 87] [88] [] g4 g6 := (F5.mono (by simp) (by simp) (by simp)).trans (F6.mono (by simp) (by simp) (by simp))
  have N6 : NSo g6 s z := (N5.so gs hL fw e B5).cg (F6.2.2.2.2.1 87 (by simp))
  have pb := pw_b b5.1 n5
  refine ⟨H6.o0, la + 16, H6.p15, H6.o16, fun v ev => ?_⟩
  have ev : v = iI (pw (s 5) - 1) := by
    have w0 := L6.w0
    rw [ev, show aI g6 (la + 16) 0 = iI (s 5) by rw [← w0]; exact rd_I g6 (la + 16) (i := 0) (Int.le_refl _), show (31 : Int32) = iI 31 from rfl, iI_shm b5.1 (by omega), show (1 : Int32) = iI 1 from rfl, sh1_I b5.1 (by omega), iI_sub]
  rw [ev]
  obtain ⟨SS, G, m0, pp2, oq, ql, qd, nw, rN, rS, tt, tb, tl, gl', gg, qq, xb, ro⟩ := id C3
  have q7 : qa3 ∉ [75] := by simp; omega
  have q8 : qa3 ∉ [88] := by simp; omega
  have eq6 : aJ g6 qa3 = aJ g3 qa3 := by rw [F46.2.2.2.2.2.1 qa3 q8, f4.2.2.2.2.2.1 qa3 q7]
  have r74 : rd g6 74 = rd g3 74 := by rw [F46.row (by simp), f4.row (by simp)]
  have n6 : aN g6 = aN g3 := by rw [F46.1, f4.1]
  have a6 : aS g6 = aS g3 := by rw [F46.2.1, f4.2.1]
  have l6 : aL g6 = aL g3 := by rw [F46.2.2.2.1, f4.2.2.2.1]
  have G36 : Gr [77, 87] [75, 88] [] g3 g6 := (f4.gr.mono (by simp) (by simp) (by simp) (by simp)).trans (F46.gr.mono (by simp) (by simp) (by simp) (by simp))
  have dq : ∀ p, p ∈ sWq → p ∈ DynP := by unfold sWq; decide
  have nh := G.2.1
  have lq3 : aL g3 qa3 ≤ 128000 := ql.2
  have C6 : CQ g6 g6 qa3 qa3 1 (-1) (fun _ => csT s t) (fun _ => 0) (fun _ => 0) := ⟨S6, Gr.refl0 g6 dq, by omega, by rw [F46.aPe, f4.aPe]; exact pp2, G36.ob oq, by rw [l6]; exact ql, qd, Or.inl rfl, Nat.le_refl _, rfl, by rw [r74]; exact tt, tb, by rw [l6]; exact tl, by rw [r74]; exact gl', by rw [r74]; exact gg, fun j j0 j1 => by rw [eq6]; exact qq j j0 j1, xb, fun _ _ => rfl⟩
  rw [← ecs] at C6
  have s6 : ∀ w, snB g6 w ↔ snB g4 w := fun w => by unfold snB; rw [F46.2.2.2.2.2.1 75 (by simp)]
  have A6 : DS g6 g6 qa3 qa3 la s t z hr (-1) (bGo (cdB s t)) := ⟨C6, fun w hw => by
    rw [s6, s4 w hw, ← ecs]
    exact ⟨fun q => q.elim (fun q => absurd q (s3 w hw)) (fun q => ⟨0, Int.le_refl _, by show (0 : Int) < 1; omega, q.symm⟩), fun ⟨j, j0, j1, j2⟩ => Or.inr j2.symm⟩, H6, L6, hl, by rw [F46.aPe]; exact p4, B5.cg (F6.row (by simp)) (F6.row (by simp)) (F6.2.2.2.2.2.1 83 (by simp)) (F6.row (by simp)), T4.cg (F46.row (by simp)) (F46.2.2.2.2.2.1 83 (by simp)) (F46.2.2.2.2.2.1 86 (by simp)), K4.cg (F46.row (by simp))⟩
  have I6 : BI (VB s t z) 0 (5 * s 2) (bGo (cdB s t)) := BI.go VS
  have rm6 : aN g6 ≤ 400000 ∧ aS g6 ≤ 4000000 := by omega
  refine ⟨_, c_mostLoop (R0 := R0) rm6 gs hL fw e v9 ru N6 hs6 S6.o77.2 S6.o87.2 hk (fun g7 qa7 S7 best pl A7 I7 ex p1 fin => ?_) 64000 0 (bGo (cdB s t)) g6 qa3 (-1) 0 0 1 A6 I6 (by omega) (by omega) (Or.inl ⟨rfl, rfl, rfl⟩) ⟨⟨by omega, by omega, Int.le_refl _⟩, fun j j0 j1 => by
    rw [dpt_0 (by omega)], fun j j0 j1 => by
    have j1 : j < 1 := j1
    omega, by omega, fun _ => rfl⟩ eR⟩
  have t64 := I7.le64 gs fw e
  obtain ⟨SS7, G7, m07, p27, oq7, ql7, qd7, nw7, rN7, rS7, tt7, tb7, tl7, gl7, gg7, qq7, xb7, ro7⟩ := id A7.C
  have p0 := fin.1.1
  have G6 : Gr (sGi ac) (sGj qa) sGq h g6 := (G.mono (by unfold sWi sGi; simp) (by unfold sWj sGj; simp) (by unfold sWq sGq; simp) (by unfold sGq; decide)).via G36 (fun a _ q => by unfold sGi; simp at q ⊢; omega) (fun a _ q => by unfold sGj; simp at q ⊢; omega) (fun _ _ _ q => absurd q List.not_mem_nil)
  have GG : Gr (sGi ac) (sGj qa) sGq h g7 := G6.via G7 (fun a _ q => by unfold sWi at q; unfold sGi; simp at q ⊢; omega) (fun a l q => by
    unfold sWj at q
    unfold sGj
    simp at q ⊢
    rcases nw with u | u <;> omega) (fun a k _ q => by unfold sWq at q; unfold sGq; simp at q ⊢; omega)
  have lk : aL g6 qa3 = aL g3 qa3 := by rw [l6]
  have p8 : aP g7 74 8 = some ac := (G7.dyn S6.o74.2 (by unfold sWq; decide)).trans ((G36.dyn S3.o74.2 List.not_mem_nil).trans ((G.dyn S.o74.2 (by unfold sWq; decide)).trans q4))
  have n7 := G7.2.1
  have n67 := G6.2.1
  have lac : aL g7 ac = aL h ac := GG.len q5.2
  have db := dpt_bd I7.fg pl.toNat pl (by omega) p0 p1
  have cg := dpt_cg I7.fg (fun j hj => (ex.2 j hj).2.1) pl.toNat pl (by omega) p1
  unfold wb_X6_mostMet_193
  refine ⟨SS7.o74, c_trace A7.C.qv I7.fg ⟨p0, p1⟩ (by omega) p8 (GG.ob q5) (by rw [lac]; exact q6) q11 (by omega) (by omega) fun g8 ac8 G8 n8 s8 p88 oa8 al8 an8 ad8 d8 r98 ro8 y8 => ?_⟩
  have l74 := SS7.o74.2
  refine K g8 qa7 ac8 best pl fin ?_
  rw [cg]
  refine ⟨GG.via G8 (fun a _ q => by unfold sGi; simp at q ⊢; omega) (fun _ _ q => absurd q List.not_mem_nil) (fun a k _ q => by unfold sGq; simp at q ⊢; omega), fun j hj => by rw [ro8 j (by omega), ro7 j (by omega), r74]; exact ro j (by omega), (G8.dyn l74 (by decide)).trans p27, G8.ob oq7, by rw [G8.len oq7.2]; exact ql7, qd7, by omega, p88, oa8, al8, ad8, by omega, by omega, by rw [G8.len oq7.2]; omega, Or.inr ⟨db.1, by omega, d8, r98, fun k hk => ?_⟩⟩
  have ac := anc_cg I7.fg (fun j hj => (ex.2 j hj).2.1) k pl p0 p1 (by omega)
  have ad := anc_d I7.fg k pl p0 p1 (by omega)
  show _ = dcd (R0.2.2.2 (anc R0.2.2.1 k pl))
  rw [y8 k hk, ac, (ex.2 _ ad.1.2).2.2]
end CBE
