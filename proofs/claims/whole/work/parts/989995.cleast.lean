/-! LEAST in the class -/
/-- where a search for a TOWN ends -/
noncomputable def runL (s t z : Int → Int) (hr goal : Int) : BS := bRun (nxB s t z hr) 0 (5 * s 2).toNat (fun _ S => seenB S goal) 64000 0 (bGo (cdB s t))
section CLE
variable {h h1 h2 h' h0 g0 g : AH} {qa0 qa ac la tw : Nat} {postV : AH → Prop} {post : AH → Int32 → Prop} {a b c d f i j k v w x y pl r hr how gl goal st u p o : Int} {s t t' t0 z T : Int → Int} {S : BS} {zr : Int64}
theorem DS.seen (A : DS h0 h qa0 qa la s t0 z hr (csB s t0 goal) S) (I : BI (VB s t0 z) 0 (5 * s 2) S) (gs : GS s) (fw : few s) (e : EZ z s) (hg : VB s t0 z goal) : 0 ≤ rd h 74 5 ↔ seenB S goal := by
  rcases A.C.gg with ⟨u1, u2⟩ | ⟨u1, u2, u3⟩
  · refine ⟨fun q => by omega, fun ⟨j, j0, j1, j2⟩ => absurd (by show csB s t0 (S.2.1 j) = csB s t0 goal; rw [j2]) (u2 j j0 j1)⟩
  · exact ⟨fun _ => ⟨_, u1, u2, csB_inj gs fw e (I.2.1 _ u1 u2) hg u3⟩, fun _ => u1⟩
theorem c_leastLoop (rm : aN h0 ≤ 400000 ∧ aS h0 ≤ 4000000) (gs : GS s) (fw : few s) (e : EZ z s) (v9 : ∀ k, 0 ≤ k → k < s 4 → s (135 + 4 * k + 2) ≤ 9) (ru : RUq s) (hg : VB s t0 z goal) :
    ∀ (dd : Nat) (i : Int) (S : BS) (h : AH) (qa : Nat), DS h0 h qa0 qa la s t0 z hr (csB s t0 goal) S → BI (VB s t0 z) 0 (5 * s 2) S → i + dd = 64000 → 0 ≤ i → (∀ h' qa', DS h0 h' qa0 qa' la s t0 z hr (csB s t0 goal) (bRun (nxB s t0 z hr) 0 (5 * s 2).toNat (fun _ S => seenB S goal) dd i S) → BI (VB s t0 z) 0 (5 * s 2) (bRun (nxB s t0 z hr) 0 (5 * s 2).toNat (fun _ S => seenB S goal) dd i S) → wb_X6_leastActs_90 h' 74 post) → wl_X6_leastActs_51 post (dd + 1) h 74 la (iI i) := by
  have b2 := gs.1.1 2 (by omega) (by omega)
  have f3 := fw.1
  have nxt : ∀ v a, VB s t0 z v → 0 ≤ a → a < 5 * s 2 → 0 ≤ nxB s t0 z hr v a → VB s t0 z (nxB s t0 z hr v a) := fun v a hv a0 a1 hn => nxB_cl gs fw e a0 a1 hv hn
  intro dd
  induction dd with
  | zero =>
    intro i S h qa A I hd i0 K
    have t64 := I.le64 gs fw e
    have SS := A.C.S
    have tt := A.C.tt
    have tb := A.C.tb
    have fin : wb_X6_leastActs_90 h 74 post := K h qa A I
    show wb_X6_leastActs_51 (wl_X6_leastActs_51 post 0) h 74 la (iI i) post
    unfold wb_X6_leastActs_51
    simp (disch := omega) only [CSh.o0 SS, CSh.o1 SS, CSh.o2 SS, CSh.o3 SS, CSh.o26 SS, CSh.o27 SS, CSh.o29 SS, CSh.o30 SS, CSh.o31 SS, CSh.o56 SS, CSh.o57 SS, CSh.o58 SS, CSh.o62 SS, CSh.o66 SS, CSh.o70 SS, CSh.o74 SS, CSh.o75 SS, CSh.o77 SS, CSh.o79 SS, CSh.o80 SS, CSh.o81 SS, CSh.o82 SS, CSh.o83 SS, CSh.o84 SS, CSh.o85 SS, CSh.o86 SS, CSh.o87 SS, CSh.o88 SS, CSh.o53 SS, CSh.o54 SS, CSh.o55 SS, CSh.o59 SS, CSh.o60 SS, CSh.o61 SS, CSh.o63 SS, CSh.o64 SS, CSh.o65 SS, CSh.o67 SS, CSh.o68 SS, CSh.o69 SS, CSh.o71 SS, CSh.o72 SS, CSh.o73 SS, CSh.o89 SS, CSh.o90 SS, CSh.o91 SS, CSh.l1 SS, CSh.l3 SS, CSh.l27 SS, CSh.l29 SS, CSh.l30 SS, CSh.l56 SS, CSh.l57 SS, CSh.l58 SS, CSh.l75 SS, CSh.l77 SS, CSh.l79 SS, CSh.l81 SS, CSh.l82 SS, CSh.l83 SS, CSh.l84 SS, CSh.l85 SS, CSh.l86 SS, CSh.l87 SS, CSh.l88 SS, CSh.l54 SS, CSh.l55 SS, CSh.l60 SS, CSh.l61 SS, CSh.l64 SS, CSh.l65 SS, CSh.l68 SS, CSh.l69 SS, CSh.l72 SS, CSh.l73 SS, CSh.l90 SS, CSh.l91 SS, CSh.p0_0 SS, CSh.p0_3 SS, CSh.p0_4 SS, CSh.p0_5 SS, CSh.p0_6 SS, CSh.p0_7 SS, CSh.p0_8 SS, CSh.p0_9 SS, CSh.p0_10 SS, CSh.p0_14 SS, CSh.p2_0 SS, CSh.p26_0 SS, CSh.p26_13 SS, CSh.p26_14 SS, CSh.p31_1 SS, CSh.p31_3 SS, CSh.p31_4 SS, CSh.p62_0 SS, CSh.p66_0 SS, CSh.p70_0 SS, CSh.p74_0 SS, CSh.p74_1 SS, CSh.p74_6 SS, CSh.p74_7 SS, CSh.p74_10 SS, CSh.p80_1 SS, CSh.p80_2 SS, CSh.p80_3 SS, CSh.p80_4 SS, CSh.p80_5 SS, CSh.p80_6 SS, CSh.p80_7 SS, CSh.p80_8 SS, CSh.p53_1 SS, CSh.p53_2 SS, CSh.p59_1 SS, CSh.p59_2 SS, CSh.p63_1 SS, CSh.p63_2 SS, CSh.p67_1 SS, CSh.p67_2 SS, CSh.p71_1 SS, CSh.p71_2 SS, CSh.p89_1 SS, CSh.p89_2 SS, fd0, fd1, fd2, fd3, fd4, fd5, fd6, fd7, fd8, fd9, fd10, fd11, fd12, fd13, fd14, fd15, fd16, fd17, fd18, fd19, fd20, fd21, fd22, fd23, fd24, fd25, fd26, fd27, fd28, fd29, fd30, fd31, fd32, fd33, fd34, fd35, fd36, fd37, fd38, fd39, fd40, fd41, fd42, fd43, fd44, fd45, fd46, fd47, fd48, fd49, fd50, fd51, fd52, tt, -Int.reduceToNat, -Int32.reduceToNatClampNeg, il0, il1, il2, il3, il4, il5, il6, il7, il8, il9, il10, il11, il12, il13, il14, il15, il16, il17, il18, il19, il20, il21, il22, il23, il24, il25, il26, il27, il28, il29, il30, il31, il32, il35, il36, il38, il40, il42, il43, il44, il45, il46, il47, il48, il49, il50, il51, il52, il57, il59, il60, il63, il64, il75, il80, il95, il96, il97, il98, il99, il100, il120, il122, il123, il127, il128, il135, il167, il175, il225, il249, il250, il255, il256, il360, il370, il384, il600, il700, il740, il900, il940, il1024, il1600, il4800, il64000, il125000, il262143, il1000000000, iI_toInt, iI_add, iI_sub, iI_mul, iI_neg, iI_lt, iI_le, iI_eq, iI_n, iI_in, iI_div, iI_mod, iI_shm, iI_and1, iI_and7, iI_and63, iI_shr3, iI_shr6, rd_I, ob, Option.some.injEq, exists_eq_left', exists_eq_left, true_and, and_true, fqI, fqJ, eq_self, true_or, or_true, bP_0, bP_0i, npP, bP_1i, bP_b, not_true_eq_false, not_false_eq_true, false_implies, true_implies, implies_true, Classical.not_not, and_self]
    exact ⟨fun _ => fin, fun u => by omega⟩
  | succ dd ih =>
    intro i S h qa A I hd i0 K
    have t64 := I.le64 gs fw e
    have SS := A.C.S
    have tt := A.C.tt
    have tb := A.C.tb
    have b5 := rd_bd h 74 5
    have sg := A.seen I gs fw e hg
    have H := A.H
    have c5 := A.L.c5
    show wb_X6_leastActs_51 (wl_X6_leastActs_51 post (dd + 1)) h 74 la (iI i) post
    rw [bRun] at K
    have out : ¬ (i < S.1 ∧ ¬ seenB S goal) → wb_X6_leastActs_90 h 74 post := fun u => by
      rw [ite_f u] at K
      exact K h qa A I
    unfold wb_X6_leastActs_51
    simp (disch := omega) only [CSh.o0 SS, CSh.o1 SS, CSh.o2 SS, CSh.o3 SS, CSh.o26 SS, CSh.o27 SS, CSh.o29 SS, CSh.o30 SS, CSh.o31 SS, CSh.o56 SS, CSh.o57 SS, CSh.o58 SS, CSh.o62 SS, CSh.o66 SS, CSh.o70 SS, CSh.o74 SS, CSh.o75 SS, CSh.o77 SS, CSh.o79 SS, CSh.o80 SS, CSh.o81 SS, CSh.o82 SS, CSh.o83 SS, CSh.o84 SS, CSh.o85 SS, CSh.o86 SS, CSh.o87 SS, CSh.o88 SS, CSh.o53 SS, CSh.o54 SS, CSh.o55 SS, CSh.o59 SS, CSh.o60 SS, CSh.o61 SS, CSh.o63 SS, CSh.o64 SS, CSh.o65 SS, CSh.o67 SS, CSh.o68 SS, CSh.o69 SS, CSh.o71 SS, CSh.o72 SS, CSh.o73 SS, CSh.o89 SS, CSh.o90 SS, CSh.o91 SS, CSh.l1 SS, CSh.l3 SS, CSh.l27 SS, CSh.l29 SS, CSh.l30 SS, CSh.l56 SS, CSh.l57 SS, CSh.l58 SS, CSh.l75 SS, CSh.l77 SS, CSh.l79 SS, CSh.l81 SS, CSh.l82 SS, CSh.l83 SS, CSh.l84 SS, CSh.l85 SS, CSh.l86 SS, CSh.l87 SS, CSh.l88 SS, CSh.l54 SS, CSh.l55 SS, CSh.l60 SS, CSh.l61 SS, CSh.l64 SS, CSh.l65 SS, CSh.l68 SS, CSh.l69 SS, CSh.l72 SS, CSh.l73 SS, CSh.l90 SS, CSh.l91 SS, CSh.p0_0 SS, CSh.p0_3 SS, CSh.p0_4 SS, CSh.p0_5 SS, CSh.p0_6 SS, CSh.p0_7 SS, CSh.p0_8 SS, CSh.p0_9 SS, CSh.p0_10 SS, CSh.p0_14 SS, CSh.p2_0 SS, CSh.p26_0 SS, CSh.p26_13 SS, CSh.p26_14 SS, CSh.p31_1 SS, CSh.p31_3 SS, CSh.p31_4 SS, CSh.p62_0 SS, CSh.p66_0 SS, CSh.p70_0 SS, CSh.p74_0 SS, CSh.p74_1 SS, CSh.p74_6 SS, CSh.p74_7 SS, CSh.p74_10 SS, CSh.p80_1 SS, CSh.p80_2 SS, CSh.p80_3 SS, CSh.p80_4 SS, CSh.p80_5 SS, CSh.p80_6 SS, CSh.p80_7 SS, CSh.p80_8 SS, CSh.p53_1 SS, CSh.p53_2 SS, CSh.p59_1 SS, CSh.p59_2 SS, CSh.p63_1 SS, CSh.p63_2 SS, CSh.p67_1 SS, CSh.p67_2 SS, CSh.p71_1 SS, CSh.p71_2 SS, CSh.p89_1 SS, CSh.p89_2 SS, LB.o0 H, fd0, fd1, fd2, fd3, fd4, fd5, fd6, fd7, fd8, fd9, fd10, fd11, fd12, fd13, fd14, fd15, fd16, fd17, fd18, fd19, fd20, fd21, fd22, fd23, fd24, fd25, fd26, fd27, fd28, fd29, fd30, fd31, fd32, fd33, fd34, fd35, fd36, fd37, fd38, fd39, fd40, fd41, fd42, fd43, fd44, fd45, fd46, fd47, fd48, fd49, fd50, fd51, fd52, tt, c5, sg, -Int.reduceToNat, -Int32.reduceToNatClampNeg, il0, il1, il2, il3, il4, il5, il6, il7, il8, il9, il10, il11, il12, il13, il14, il15, il16, il17, il18, il19, il20, il21, il22, il23, il24, il25, il26, il27, il28, il29, il30, il31, il32, il35, il36, il38, il40, il42, il43, il44, il45, il46, il47, il48, il49, il50, il51, il52, il57, il59, il60, il63, il64, il75, il80, il95, il96, il97, il98, il99, il100, il120, il122, il123, il127, il128, il135, il167, il175, il225, il249, il250, il255, il256, il360, il370, il384, il600, il700, il740, il900, il940, il1024, il1600, il4800, il64000, il125000, il262143, il1000000000, iI_toInt, iI_add, iI_sub, iI_mul, iI_neg, iI_lt, iI_le, iI_eq, iI_n, iI_in, iI_div, iI_mod, iI_shm, iI_and1, iI_and7, iI_and63, iI_shr3, iI_shr6, rd_I, ob, Option.some.injEq, exists_eq_left', exists_eq_left, true_and, and_true, fqI, fqJ, eq_self, true_or, or_true, bP_0, bP_0i, npP, bP_1i, bP_b, not_true_eq_false, not_false_eq_true, false_implies, true_implies, implies_true, Classical.not_not, and_self]
    refine ⟨fun u => out (by omega), fun c1 => ⟨fun u => by omega, fun _ => ⟨fun u => out fun q => q.2 u, fun c2 => ?_⟩⟩⟩
    have hi : i < S.1 := by omega
    rw [ite_t ⟨hi, c2⟩] at K
    refine c_goOnFrom A I rm ⟨i0, hi⟩ gs fw e v9 ru fun h' qa' A' => ?_
    have I' := bHead_I (nx := nxB s t0 z hr) I i0 hi nxt (5 * s 2).toNat (by omega)
    exact ih (i + 1) _ h' qa' A' I' (by omega) (by omega) K
theorem c_leastActs (S : CSh h) (H : LB h la) (L : LR h la s) (hl : la = 5 ∨ la = 32) (gs : GS s) (fw : few s) (e : EZ z s) (v9 : ∀ k, 0 ≤ k → k < s 4 → s (135 + 4 * k + 2) ≤ 9) (ru : RUq s) (R1 : TR h 53 la s t z) (V1 : VT s t z) (R2 : TR h 59 la s t' z) (V2 : VT s t' z) (ho : ∀ j, j < 0 ∨ 3 * s 2 ≤ j → t' j = t j) (hh : 0 ≤ hr ∧ hr < 24) (n0 : 119 ≤ aN h) (rm : aN h ≤ 400000 ∧ aS h ≤ 4000000)
    (q1 : aP h 74 2 = some qa) (q2 : ob h qa 14) (q3 : 256 ≤ aL h qa ∧ aL h qa ≤ 128000) (q4 : aP h 74 8 = some ac) (q5 : ob h ac 13) (q6 : 64 ≤ aL h ac ∧ aL h ac ≤ 128000) (q10 : qa = 76 ∨ 119 ≤ qa) (q11 : ac = 78 ∨ 119 ≤ ac)
    (K0 : ∀ h' qa', ¬ seenB (runL s t z hr (cdB s t')) (cdB s t') → SO h h' qa ac qa' ac (-1) (fun _ => 0) → post h' (iI (-1)))
    (K1 : ∀ h' qa' ac' pl, 0 ≤ pl → pl < (runL s t z hr (cdB s t')).1 → (runL s t z hr (cdB s t')).2.1 pl = cdB s t' → SO h h' qa ac qa' ac' (dpt (runL s t z hr (cdB s t')).2.2.1 pl) (fun k => dcd ((runL s t z hr (cdB s t')).2.2.2 (anc (runL s t z hr (cdB s t')).2.2.1 k pl))) → post h' (iI (dpt (runL s t z hr (cdB s t')).2.2.1 pl))) : wp_X6_leastActs h 74 la 53 59 (iI hr) post := by
  obtain ⟨VS, eS⟩ := VB.of (t0 := t) gs fw e V1 (fun _ _ => rfl)
  obtain ⟨VG, eG⟩ := VB.of (t0 := t) gs fw e V2 ho
  have ecs : csB s t (cdB s t) = csT s t := by unfold csB; rw [eS]
  have ecg : csB s t (cdB s t') = csT s t' := by unfold csB; rw [eG]
  have ok1 := csT_ok gs fw e V1
  have ok2 := csT_ok gs fw e V2
  have okn1 := ok1.1.1
  have okn2 := ok2.1.1
  unfold wp_X6_leastActs
  refine ⟨S.o74, 80, S.p74_0, S.o80, c_list S H L hl gs fw v9 fun g0 g1 eg F1 B1 T1 => ?_⟩
  have G0 : Gr [] [] [(80, 0)] h g0 := by rw [eg]; exact gr_hP1 (k := 0) (by decide)
  have Sg0 := S.gr G0
  have S1 := Sg0.gr F1.gr
  have H0 : LB g0 la := H.gr G0 (by omega)
  have L0 : LR g0 la s := L.grw H G0 (fun j _ => List.not_mem_nil) (fun j _ => List.not_mem_nil)
  have H1 : LB g1 la := H0.gr F1.gr (by omega)
  have L1 : LR g1 la s := L0.fr F1 (fun j hj => by simp; omega) (fun j hj => by simp; omega)
  have p1 : aP g1 80 0 = some la := by rw [F1.aPe, eg, aP_hP, if_pos rfl]
  refine ⟨S1.o74, 80, S1.p74_0, S1.o80, c_link S1 H1 L1 hl p1 gs fw e B1 hh.1 hh.2 fun g2 F2 K2 => ?_⟩
  have S2 := S1.gr F2.gr
  have H2 : LB g2 la := H1.gr F2.gr (by omega)
  have L2 : LR g2 la s := L1.fr F2 (fun j hj => by simp; omega) (fun j hj => List.not_mem_nil)
  have p2 : aP g2 80 0 = some la := by rw [F2.aPe]; exact p1
  have B2 : BL3 g2 s := B1.cg (F2.row (by simp)) (F2.row (by simp)) (F2.2.2.2.2.2.1 83 (by simp)) (F2.row (by simp))
  have T2 : TG3 g2 s := T1.cg (F2.row (by simp)) (F2.2.2.2.2.2.1 83 (by simp)) (F2.2.2.2.2.2.1 86 (by simp))
  have G2 : Gr sWi (sWj qa) sWq h g2 := ((G0.mono (wi' := sWi) (wj' := sWj qa) (wq' := sWq) (by simp) (by simp) (by unfold sWq; simp) (by unfold sWq; decide)).via F1.gr (fun a _ q => by unfold sWi; simp at q ⊢; omega) (fun a _ q => by unfold sWj; simp at q ⊢; omega) (fun _ _ _ q => absurd q List.not_mem_nil)).via F2.gr (fun a _ q => by unfold sWi; simp at q ⊢; omega) (fun _ _ q => absurd q List.not_mem_nil) (fun _ _ _ q => absurd q List.not_mem_nil)
  have R12 : TR g2 53 la s t z := ((R1.gr G0 (by intro k hk; unfold DynP; simp [hk]) (by simp) (by simp) (by simp)).gr F1.gr (by intro k hk; unfold DynP; simp [hk]) (by simp) (by simp) (by simp)).gr F2.gr (by intro k hk; unfold DynP; simp [hk]) (by simp) (by simp) (by simp)
  have R22 : TR g2 59 la s t' z := ((R2.gr G0 (by intro k hk; unfold DynP; simp [hk]) (by simp) (by simp) (by simp)).gr F1.gr (by intro k hk; unfold DynP; simp [hk]) (by simp) (by simp) (by simp)).gr F2.gr (by intro k hk; unfold DynP; simp [hk]) (by simp) (by simp) (by simp)
  refine ⟨S2.o74, 80, S2.p74_0, S2.o80, c_stateOf S2 H2 L2 p2 gs fw e B2 R12 V1 ⟨S2.o74, 80, S2.p74_0, S2.o80, c_stateOf S2 H2 L2 p2 gs fw e B2 R22 V2 ⟨S2.o74, ?_⟩⟩⟩
  have eN : aN g2 = aN h := by rw [F2.1, F1.1, eg]; rfl
  have eA : aS g2 = aS h := by rw [F2.2.1, F1.2.1, eg]; rfl
  have lq : aL g2 qa = aL h qa := G2.len q2.2
  refine c_start S2 n0 rm G2 eN eA (by rw [F2.aPe, F1.aPe]; exact (G0.dyn S.o74.2 (by decide)).trans q1) (G2.ob q2) (by rw [lq]; exact q3) lq q10 (fun j hj => by rw [F2.row (by simp), F1.row (by simp), eg]; rfl) (by omega) (by omega) fun g3 qa3 C3 G3 z3 ro3 => ?_
  have S3 := C3.S
  have qd3 := C3.qd
  have s3 : ∀ w, okS w → ¬ snB g3 w := fun w hw => by
    obtain ⟨w0, w1, w2⟩ := hw
    unfold snB
    rw [z3 _ (by omega)]
    exact zb_0 _
  have H3 : LB g3 la := H2.gr G3 (by omega)
  have L3 : LR g3 la s := L2.grw H2 G3 (fun j hj => by simp; omega) (fun j hj => by simp; omega)
  refine ⟨S3.o74, c_isNew S3 ok1.1 (fun g4 _ f4 s4 => ?_) (fun q => absurd q (s3 _ ok1.1))⟩
  have S4 := S3.gr f4.gr
  have C4 : CQ h g4 qa qa3 1 (csT s t') (fun _ => csT s t) (fun _ => 0) (fun _ => 0) := by
    obtain ⟨SS, G, m0, p2, oq, ql, qd, nw, rN, rS, tt, tb, tl, gl, gg, qq, xb, ro⟩ := C3
    have q7 : qa3 ∉ [75] := by simp; omega
    exact ⟨S4, G.via f4.gr (fun a _ q => absurd q List.not_mem_nil) (fun a _ q => by rw [List.mem_singleton.mp q]; unfold sWj; simp) (fun a k _ q => absurd q List.not_mem_nil), m0, by rw [f4.aPe]; exact p2, f4.gr.ob oq, by rw [f4.2.2.2.1]; exact ql, qd, nw, by rw [f4.1, f4.2.2.2.1]; exact rN, by rw [f4.2.1, f4.2.2.2.1]; exact rS, by rw [f4.row (by simp)]; exact tt, tb, by rw [f4.2.2.2.1]; exact tl, by rw [f4.row (by simp)]; exact gl, by rw [f4.row (by simp)]; exact gg, fun j j0 j1 => by rw [f4.2.2.2.2.2.1 qa3 q7]; exact qq j j0 j1, xb, fun j hj => by rw [f4.row (by simp)]; exact ro j hj⟩
  have q83 : (83 : Nat) ∉ [75, qa] := by simp; omega
  have q86 : (86 : Nat) ∉ [75, qa] := by simp; omega
  have r82 : rd g4 82 = rd g2 82 := by rw [f4.row (by simp), G3.row S2.o82.2 (by simp)]
  have j83 : aJ g4 83 = aJ g2 83 := by rw [f4.2.2.2.2.2.1 83 (by simp)]; exact G3.jow S2.o83.2 q83
  rw [← ecs, ← ecg] at C4
  have A4 : DS h g4 qa qa3 la s t z hr (csB s t (cdB s t')) (bGo (cdB s t)) := ⟨C4, fun w hw => by
    rw [s4 w hw, ← ecs]
    exact ⟨fun q => q.elim (fun q => absurd q (s3 w hw)) (fun q => ⟨0, Int.le_refl _, by show (0 : Int) < 1; omega, q.symm⟩), fun ⟨j, j0, j1, j2⟩ => Or.inr j2.symm⟩, H3.gr f4.gr (by omega), L3.grw H3 f4.gr (fun j _ => List.not_mem_nil) (fun j hj => by simp; omega), hl, by rw [f4.aPe]; exact (G3.dyn S2.o80.2 (by decide)).trans p2, B2.cg (by rw [f4.row (by simp), G3.row S2.o81.2 (by simp)]) r82 j83 (by rw [f4.row (by simp), G3.row S2.o84.2 (by simp)]), T2.cg r82 j83 (by rw [f4.2.2.2.2.2.1 86 (by simp)]; exact G3.jow S2.o86.2 q86), K2.cg (by rw [f4.row (by simp), G3.row S2.o85.2 (by simp)])⟩
  have I4 : BI (VB s t z) 0 (5 * s 2) (bGo (cdB s t)) := BI.go VS
  refine ⟨_, c_leastLoop rm gs fw e v9 ru VG 64000 0 (bGo (cdB s t)) g4 qa3 A4 I4 (by omega) (by omega) fun g5 qa5 A5 I5 => ?_⟩
  have hrun : bRun (nxB s t z hr) 0 (5 * s 2).toNat (fun _ S => seenB S (cdB s t')) 64000 0 (bGo (cdB s t)) = runL s t z hr (cdB s t') := rfl
  rw [hrun] at A5 I5
  generalize runL s t z hr (cdB s t') = Sf at A5 I5 K0 K1
  have sg := A5.seen I5 gs fw e VG
  have t64 := I5.le64 gs fw e
  have S5 := A5.C.S
  have b5 := rd_bd g5 74 5
  obtain ⟨SS, G5, m0, p25, oq5, ql5, qd5, nw5, rN5, rS5, tt5, tb5, tl5, gl5, gg5, qq5, xb5, ro5⟩ := id A5.C
  have GG : Gr (sGi ac) (sGj qa) sGq h g5 := G5.mono (by unfold sWi sGi; simp) (by unfold sWj sGj; simp) (by unfold sWq sGq; simp) (by unfold sGq; decide)
  have p8 : aP g5 74 8 = some ac := (G5.dyn S.o74.2 (by unfold sWq; decide)).trans q4
  have acn : ac ∉ sWi := fun q => by unfold sWi at q; simp at q; omega
  have rac : rd g5 ac = rd h ac := G5.row q5.2 acn
  have lac : aL g5 ac = aL h ac := G5.len q5.2
  unfold wb_X6_leastActs_90
  simp (disch := omega) only [CSh.o0 S5, CSh.o1 S5, CSh.o2 S5, CSh.o3 S5, CSh.o26 S5, CSh.o27 S5, CSh.o29 S5, CSh.o30 S5, CSh.o31 S5, CSh.o56 S5, CSh.o57 S5, CSh.o58 S5, CSh.o62 S5, CSh.o66 S5, CSh.o70 S5, CSh.o74 S5, CSh.o75 S5, CSh.o77 S5, CSh.o79 S5, CSh.o80 S5, CSh.o81 S5, CSh.o82 S5, CSh.o83 S5, CSh.o84 S5, CSh.o85 S5, CSh.o86 S5, CSh.o87 S5, CSh.o88 S5, CSh.o53 S5, CSh.o54 S5, CSh.o55 S5, CSh.o59 S5, CSh.o60 S5, CSh.o61 S5, CSh.o63 S5, CSh.o64 S5, CSh.o65 S5, CSh.o67 S5, CSh.o68 S5, CSh.o69 S5, CSh.o71 S5, CSh.o72 S5, CSh.o73 S5, CSh.o89 S5, CSh.o90 S5, CSh.o91 S5, CSh.l1 S5, CSh.l3 S5, CSh.l27 S5, CSh.l29 S5, CSh.l30 S5, CSh.l56 S5, CSh.l57 S5, CSh.l58 S5, CSh.l75 S5, CSh.l77 S5, CSh.l79 S5, CSh.l81 S5, CSh.l82 S5, CSh.l83 S5, CSh.l84 S5, CSh.l85 S5, CSh.l86 S5, CSh.l87 S5, CSh.l88 S5, CSh.l54 S5, CSh.l55 S5, CSh.l60 S5, CSh.l61 S5, CSh.l64 S5, CSh.l65 S5, CSh.l68 S5, CSh.l69 S5, CSh.l72 S5, CSh.l73 S5, CSh.l90 S5, CSh.l91 S5, CSh.p0_0 S5, CSh.p0_3 S5, CSh.p0_4 S5, CSh.p0_5 S5, CSh.p0_6 S5, CSh.p0_7 S5, CSh.p0_8 S5, CSh.p0_9 S5, CSh.p0_10 S5, CSh.p0_14 S5, CSh.p2_0 S5, CSh.p26_0 S5, CSh.p26_13 S5, CSh.p26_14 S5, CSh.p31_1 S5, CSh.p31_3 S5, CSh.p31_4 S5, CSh.p62_0 S5, CSh.p66_0 S5, CSh.p70_0 S5, CSh.p74_0 S5, CSh.p74_1 S5, CSh.p74_6 S5, CSh.p74_7 S5, CSh.p74_10 S5, CSh.p80_1 S5, CSh.p80_2 S5, CSh.p80_3 S5, CSh.p80_4 S5, CSh.p80_5 S5, CSh.p80_6 S5, CSh.p80_7 S5, CSh.p80_8 S5, CSh.p53_1 S5, CSh.p53_2 S5, CSh.p59_1 S5, CSh.p59_2 S5, CSh.p63_1 S5, CSh.p63_2 S5, CSh.p67_1 S5, CSh.p67_2 S5, CSh.p71_1 S5, CSh.p71_2 S5, CSh.p89_1 S5, CSh.p89_2 S5, fd0, fd1, fd2, fd3, fd4, fd5, fd6, fd7, fd8, fd9, fd10, fd11, fd12, fd13, fd14, fd15, fd16, fd17, fd18, fd19, fd20, fd21, fd22, fd23, fd24, fd25, fd26, fd27, fd28, fd29, fd30, fd31, fd32, fd33, fd34, fd35, fd36, fd37, fd38, fd39, fd40, fd41, fd42, fd43, fd44, fd45, fd46, fd47, fd48, fd49, fd50, fd51, fd52, sg, -Int.reduceToNat, -Int32.reduceToNatClampNeg, il0, il1, il2, il3, il4, il5, il6, il7, il8, il9, il10, il11, il12, il13, il14, il15, il16, il17, il18, il19, il20, il21, il22, il23, il24, il25, il26, il27, il28, il29, il30, il31, il32, il35, il36, il38, il40, il42, il43, il44, il45, il46, il47, il48, il49, il50, il51, il52, il57, il59, il60, il63, il64, il75, il80, il95, il96, il97, il98, il99, il100, il120, il122, il123, il127, il128, il135, il167, il175, il225, il249, il250, il255, il256, il360, il370, il384, il600, il700, il740, il900, il940, il1024, il1600, il4800, il64000, il125000, il262143, il1000000000, iI_toInt, iI_add, iI_sub, iI_mul, iI_neg, iI_lt, iI_le, iI_eq, iI_n, iI_in, iI_div, iI_mod, iI_shm, iI_and1, iI_and7, iI_and63, iI_shr3, iI_shr6, rd_I, ob, Option.some.injEq, exists_eq_left', exists_eq_left, true_and, and_true, fqI, fqJ, eq_self, true_or, or_true, bP_0, bP_0i, npP, bP_1i, bP_b, not_true_eq_false, not_false_eq_true, false_implies, true_implies, implies_true, Classical.not_not, and_self]
  refine ⟨fun sn => ?_, fun ns => ?_⟩
  · have g5' := sg.mpr sn
    rcases gg5 with ⟨w1, w2⟩ | ⟨w1, w2, w3⟩
    · omega
    generalize hpl : rd g5 74 5 = pl at *
    have ep : Sf.2.1 pl = cdB s t' := csB_inj gs fw e (I5.2.1 pl w1 w2) VG w3
    refine c_trace A5.C.qv I5.fg ⟨w1, w2⟩ (by omega) p8 (G5.ob q5) (by rw [lac]; exact q6) q11 (by have := G5.2.1; omega) (by omega) fun g6 ac6 G6 n6 s6 p86 oa6 al6 an6 ad6 d6 r96 ro6 y6 => ?_
    have db := dpt_bd I5.fg pl.toNat pl (by omega) w1 w2
    have l74 := SS.o74.2
    have acq : ac ≠ qa5 := fun e => by have a := (G5.ob q5).1; rw [e, oq5.1] at a; omega
    have G5' := G5.2.1
    refine K1 g6 qa5 ac6 pl w1 w2 ep ⟨GG.via G6 (fun a _ q => by unfold sGi; simp at q ⊢; omega) (fun _ _ q => absurd q List.not_mem_nil) (fun a k _ q => by unfold sGq; simp at q ⊢; omega), fun j hj => by rw [ro6 j (by omega)]; exact ro5 j (by omega), (G6.dyn l74 (by decide)).trans p25, G6.ob oq5, by rw [G6.len oq5.2]; exact ql5, qd5, nw5, p86, oa6, al6, ad6, by omega, by omega, by rw [G6.len oq5.2]; omega, Or.inr ⟨db.1, by omega, d6, r96, y6⟩⟩
  · exact K0 g5 qa5 ns ⟨GG, fun j hj => ro5 j (by omega), p25, oq5, ql5, qd5, nw5, p8, G5.ob q5, by rw [lac]; exact q6, q11, Or.inl rfl, by omega, by rw [lac]; omega, Or.inl ⟨rfl, ro5 9 (by omega), rfl, rac⟩⟩
end CLE
