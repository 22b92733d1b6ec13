/-! ALONE in the class, all of it -/
section ALC
variable {h h1 h2 h' h0 g0 : AH} {qa0 qa ac la fr i0 : Nat} {postV : AH → Prop} {post : AH → Int32 → Prop} {a b c d f i j k t' v w x y pl r hr how goal st u : Int} {s t z X F B : Int → Int} {S : BS} {zz : Int64}
theorem AS.seen (A : AS h0 h qa0 qa la s t z r goal S) (I : BI (VA s t z r) (5 * r) (5 * r + 5) S) (hg : 0 ≤ goal ∧ goal < 128) : 0 ≤ rd h 74 5 ↔ seenB S goal := by
  rcases A.C.gg with ⟨u1, u2⟩ | ⟨u1, u2, u3⟩
  · refine ⟨fun q => by omega, fun ⟨j, j0, j1, j2⟩ => absurd (by show csA (S.2.1 j) = csA goal; rw [j2]) (u2 j j0 j1)⟩
  · exact ⟨fun _ => ⟨_, u1, u2, csA_inj (I.2.1 _ u1 u2).1 hg u3⟩, fun _ => u1⟩
theorem AS.town {wi wj : List Nat} {wq : List (Nat × Nat)} (A : AS h0 h qa0 qa la s t z r goal S) (f : Gr wi wj wq h h') (c1 : ∀ a, a ∈ wi → a = 90) (c2 : ∀ a, a ∈ wj → a = 91) (c3 : ∀ p, p ∈ wq → p = (89, 0)) (eN : aN h' = aN h) (eS : aS h' = aS h) : AS h0 h' qa0 qa la s t z r goal S := by
  obtain ⟨C, sn, H, L, hl⟩ := A
  obtain ⟨SS, G, m0, p2, oq, ql, qd, nw, rN, rS, tt, tb, tl, gl, gg, qq, xb, ro⟩ := C
  have nq : qa ∉ wj := fun q => by have := c2 _ q; omega
  have n74 : (74 : Nat) ∉ wi := fun q => by have := c1 _ q; omega
  have n75 : (75 : Nat) ∉ wj := fun q => by have := c2 _ q; omega
  have r74 : rd h' 74 = rd h 74 := f.row SS.o74.2 n74
  refine ⟨⟨SS.gr f, G.via f (fun a _ q => by rw [c1 a q]; unfold sWi; simp) (fun a _ q => by rw [c2 a q]; unfold sWj; simp) (fun a k _ q => by rw [c3 _ q]; unfold sWq; simp), m0, (f.dyn SS.o74.2 fun q => by have := c3 _ q; simp at this).trans p2, f.ob oq, by rw [f.len oq.2]; exact ql, qd, nw, by rw [eN, f.len oq.2]; exact rN, by rw [eS, f.len oq.2]; exact rS, by rw [r74]; exact tt, tb, by rw [f.len oq.2]; exact tl, by rw [r74]; exact gl, by rw [r74]; exact gg, fun j j0 j1 => by rw [f.jow oq.2 nq]; exact qq j j0 j1, xb, fun j hj => by rw [r74]; exact ro j hj⟩, fun u u0 u1 => ?_, H.gr f (by omega), L.grw H f (fun j hj q => by have := c1 _ q; omega) (fun j hj q => by have := c2 _ q; omega), hl⟩
  unfold snA
  rw [f.jow SS.o75.2 n75]
  exact sn u u0 u1
theorem c_aloneLoop (rm : aN h0 ≤ 400000 ∧ aS h0 ≤ 4000000) (gs : GS s) (e : EZ z s) (hr8 : 0 ≤ r ∧ r < s 2) (hh : 0 ≤ hr ∧ hr < 24) (hg : 0 ≤ goal ∧ goal < 128) :
    ∀ (dd : Nat) (i : Int) (S : BS) (h : AH) (qa : Nat), AS h0 h qa0 qa la s t z r goal S → BI (VA s t z r) (5 * r) (5 * r + 5) S → i + dd = 128 → 0 ≤ i → (∃ v0, TR h 89 la s (ptA t r v0) z) → (∀ h' qa', AS h0 h' qa0 qa' la s t z r goal (bRun (nxA s t z r hr) (5 * r) 5 (fun _ S => seenB S goal) dd i S) → BI (VA s t z r) (5 * r) (5 * r + 5) (bRun (nxA s t z r hr) (5 * r) 5 (fun _ S => seenB S goal) dd i S) → wb_X6_leastAlone_136 h' 74 post) → wl_X6_leastAlone_35 post (dd + 1) h 74 (iI r) (iI hr) (iI i) := by
  have n2 : s 2 ≤ 8 := gs.1.2.2.2.1
  have n0 : s 0 ≤ 8 := gs.1.2.1
  have n1 : s 1 ≤ 8 := gs.1.2.2.1
  have hZ := Z1.of e gs.2.1 hr8.1 hr8.2 n2
  intro dd
  induction dd with
  | zero =>
    intro i S h qa A I hd i0 T K
    have t128 := I.le (M := 128) (fun v hv => hv.1)
    have SS := A.C.S
    have tt := A.C.tt
    have fin : wb_X6_leastAlone_136 h 74 post := K h qa A I
    have tb := A.C.tb
    show wb_X6_leastAlone_35 (wl_X6_leastAlone_35 post 0) h 74 (iI r) (iI hr) (iI i) post
    unfold wb_X6_leastAlone_35
    simp (disch := omega) only [CSh.o0 SS, CSh.o1 SS, CSh.o2 SS, CSh.o3 SS, CSh.o26 SS, CSh.o27 SS, CSh.o29 SS, CSh.o30 SS, CSh.o31 SS, CSh.o56 SS, CSh.o57 SS, CSh.o58 SS, CSh.o62 SS, CSh.o66 SS, CSh.o70 SS, CSh.o74 SS, CSh.o75 SS, CSh.o77 SS, CSh.o79 SS, CSh.o80 SS, CSh.o81 SS, CSh.o82 SS, CSh.o83 SS, CSh.o84 SS, CSh.o85 SS, CSh.o86 SS, CSh.o87 SS, CSh.o88 SS, CSh.o53 SS, CSh.o54 SS, CSh.o55 SS, CSh.o59 SS, CSh.o60 SS, CSh.o61 SS, CSh.o63 SS, CSh.o64 SS, CSh.o65 SS, CSh.o67 SS, CSh.o68 SS, CSh.o69 SS, CSh.o71 SS, CSh.o72 SS, CSh.o73 SS, CSh.o89 SS, CSh.o90 SS, CSh.o91 SS, CSh.l1 SS, CSh.l3 SS, CSh.l27 SS, CSh.l29 SS, CSh.l30 SS, CSh.l56 SS, CSh.l57 SS, CSh.l58 SS, CSh.l75 SS, CSh.l77 SS, CSh.l79 SS, CSh.l81 SS, CSh.l82 SS, CSh.l83 SS, CSh.l84 SS, CSh.l85 SS, CSh.l86 SS, CSh.l87 SS, CSh.l88 SS, CSh.l54 SS, CSh.l55 SS, CSh.l60 SS, CSh.l61 SS, CSh.l64 SS, CSh.l65 SS, CSh.l68 SS, CSh.l69 SS, CSh.l72 SS, CSh.l73 SS, CSh.l90 SS, CSh.l91 SS, CSh.p0_0 SS, CSh.p0_3 SS, CSh.p0_4 SS, CSh.p0_5 SS, CSh.p0_6 SS, CSh.p0_7 SS, CSh.p0_8 SS, CSh.p0_9 SS, CSh.p0_10 SS, CSh.p0_14 SS, CSh.p2_0 SS, CSh.p26_0 SS, CSh.p26_13 SS, CSh.p26_14 SS, CSh.p31_1 SS, CSh.p31_3 SS, CSh.p31_4 SS, CSh.p62_0 SS, CSh.p66_0 SS, CSh.p70_0 SS, CSh.p74_0 SS, CSh.p74_1 SS, CSh.p74_6 SS, CSh.p74_7 SS, CSh.p74_10 SS, CSh.p80_1 SS, CSh.p80_2 SS, CSh.p80_3 SS, CSh.p80_4 SS, CSh.p80_5 SS, CSh.p80_6 SS, CSh.p80_7 SS, CSh.p80_8 SS, CSh.p53_1 SS, CSh.p53_2 SS, CSh.p59_1 SS, CSh.p59_2 SS, CSh.p63_1 SS, CSh.p63_2 SS, CSh.p67_1 SS, CSh.p67_2 SS, CSh.p71_1 SS, CSh.p71_2 SS, CSh.p89_1 SS, CSh.p89_2 SS, fd0, fd1, fd2, fd3, fd4, fd5, fd6, fd7, fd8, fd9, fd10, fd11, fd12, fd13, fd14, fd15, fd16, fd17, fd18, fd19, fd20, fd21, fd22, fd23, fd24, fd25, fd26, fd27, fd28, fd29, fd30, fd31, fd32, fd33, fd34, fd35, fd36, fd37, fd38, fd39, fd40, fd41, fd42, fd43, fd44, fd45, fd46, fd47, fd48, fd49, fd50, fd51, fd52, tt, -Int.reduceToNat, -Int32.reduceToNatClampNeg, il0, il1, il2, il3, il4, il5, il6, il7, il8, il9, il10, il11, il12, il13, il14, il15, il16, il17, il18, il19, il20, il21, il22, il23, il24, il25, il26, il27, il28, il29, il30, il31, il32, il35, il36, il38, il40, il42, il43, il44, il45, il46, il47, il48, il49, il50, il51, il52, il57, il59, il60, il63, il64, il75, il80, il95, il96, il97, il98, il99, il100, il120, il122, il123, il127, il128, il135, il167, il175, il225, il249, il250, il255, il256, il360, il370, il384, il600, il700, il740, il900, il940, il1024, il1600, il4800, il64000, il125000, il262143, il1000000000, iI_toInt, iI_add, iI_sub, iI_mul, iI_neg, iI_lt, iI_le, iI_eq, iI_n, iI_in, iI_div, iI_mod, iI_shm, iI_and1, iI_and7, iI_and63, iI_shr3, iI_shr6, rd_I, ob, Option.some.injEq, exists_eq_left', exists_eq_left, true_and, and_true, fqI, fqJ, eq_self, true_or, or_true, bP_0, bP_0i, npP, bP_1i, bP_b, not_true_eq_false, not_false_eq_true, false_implies, true_implies, implies_true, Classical.not_not, and_self]
    exact ⟨fun _ => fin, fun u => by omega⟩
  | succ dd ih =>
    intro i S h qa A I hd i0 T K
    have t128 := I.le (M := 128) (fun v hv => hv.1)
    have SS := A.C.S
    have tt := A.C.tt
    have tb := A.C.tb
    have b5 := rd_bd h 74 5
    have sg := A.seen I hg
    show wb_X6_leastAlone_35 (wl_X6_leastAlone_35 post (dd + 1)) h 74 (iI r) (iI hr) (iI i) post
    rw [bRun] at K
    have out : ¬ (i < S.1 ∧ ¬ seenB S goal) → wb_X6_leastAlone_136 h 74 post := fun u => by
      rw [ite_f u] at K
      exact K h qa A I
    unfold wb_X6_leastAlone_35
    simp (disch := omega) only [CSh.o0 SS, CSh.o1 SS, CSh.o2 SS, CSh.o3 SS, CSh.o26 SS, CSh.o27 SS, CSh.o29 SS, CSh.o30 SS, CSh.o31 SS, CSh.o56 SS, CSh.o57 SS, CSh.o58 SS, CSh.o62 SS, CSh.o66 SS, CSh.o70 SS, CSh.o74 SS, CSh.o75 SS, CSh.o77 SS, CSh.o79 SS, CSh.o80 SS, CSh.o81 SS, CSh.o82 SS, CSh.o83 SS, CSh.o84 SS, CSh.o85 SS, CSh.o86 SS, CSh.o87 SS, CSh.o88 SS, CSh.o53 SS, CSh.o54 SS, CSh.o55 SS, CSh.o59 SS, CSh.o60 SS, CSh.o61 SS, CSh.o63 SS, CSh.o64 SS, CSh.o65 SS, CSh.o67 SS, CSh.o68 SS, CSh.o69 SS, CSh.o71 SS, CSh.o72 SS, CSh.o73 SS, CSh.o89 SS, CSh.o90 SS, CSh.o91 SS, CSh.l1 SS, CSh.l3 SS, CSh.l27 SS, CSh.l29 SS, CSh.l30 SS, CSh.l56 SS, CSh.l57 SS, CSh.l58 SS, CSh.l75 SS, CSh.l77 SS, CSh.l79 SS, CSh.l81 SS, CSh.l82 SS, CSh.l83 SS, CSh.l84 SS, CSh.l85 SS, CSh.l86 SS, CSh.l87 SS, CSh.l88 SS, CSh.l54 SS, CSh.l55 SS, CSh.l60 SS, CSh.l61 SS, CSh.l64 SS, CSh.l65 SS, CSh.l68 SS, CSh.l69 SS, CSh.l72 SS, CSh.l73 SS, CSh.l90 SS, CSh.l91 SS, CSh.p0_0 SS, CSh.p0_3 SS, CSh.p0_4 SS, CSh.p0_5 SS, CSh.p0_6 SS, CSh.p0_7 SS, CSh.p0_8 SS, CSh.p0_9 SS, CSh.p0_10 SS, CSh.p0_14 SS, CSh.p2_0 SS, CSh.p26_0 SS, CSh.p26_13 SS, CSh.p26_14 SS, CSh.p31_1 SS, CSh.p31_3 SS, CSh.p31_4 SS, CSh.p62_0 SS, CSh.p66_0 SS, CSh.p70_0 SS, CSh.p74_0 SS, CSh.p74_1 SS, CSh.p74_6 SS, CSh.p74_7 SS, CSh.p74_10 SS, CSh.p80_1 SS, CSh.p80_2 SS, CSh.p80_3 SS, CSh.p80_4 SS, CSh.p80_5 SS, CSh.p80_6 SS, CSh.p80_7 SS, CSh.p80_8 SS, CSh.p53_1 SS, CSh.p53_2 SS, CSh.p59_1 SS, CSh.p59_2 SS, CSh.p63_1 SS, CSh.p63_2 SS, CSh.p67_1 SS, CSh.p67_2 SS, CSh.p71_1 SS, CSh.p71_2 SS, CSh.p89_1 SS, CSh.p89_2 SS, fd0, fd1, fd2, fd3, fd4, fd5, fd6, fd7, fd8, fd9, fd10, fd11, fd12, fd13, fd14, fd15, fd16, fd17, fd18, fd19, fd20, fd21, fd22, fd23, fd24, fd25, fd26, fd27, fd28, fd29, fd30, fd31, fd32, fd33, fd34, fd35, fd36, fd37, fd38, fd39, fd40, fd41, fd42, fd43, fd44, fd45, fd46, fd47, fd48, fd49, fd50, fd51, fd52, tt, sg, -Int.reduceToNat, -Int32.reduceToNatClampNeg, il0, il1, il2, il3, il4, il5, il6, il7, il8, il9, il10, il11, il12, il13, il14, il15, il16, il17, il18, il19, il20, il21, il22, il23, il24, il25, il26, il27, il28, il29, il30, il31, il32, il35, il36, il38, il40, il42, il43, il44, il45, il46, il47, il48, il49, il50, il51, il52, il57, il59, il60, il63, il64, il75, il80, il95, il96, il97, il98, il99, il100, il120, il122, il123, il127, il128, il135, il167, il175, il225, il249, il250, il255, il256, il360, il370, il384, il600, il700, il740, il900, il940, il1024, il1600, il4800, il64000, il125000, il262143, il1000000000, iI_toInt, iI_add, iI_sub, iI_mul, iI_neg, iI_lt, iI_le, iI_eq, iI_n, iI_in, iI_div, iI_mod, iI_shm, iI_and1, iI_and7, iI_and63, iI_shr3, iI_shr6, rd_I, ob, Option.some.injEq, exists_eq_left', exists_eq_left, true_and, and_true, fqI, fqJ, eq_self, true_or, or_true, bP_0, bP_0i, npP, bP_1i, bP_b, not_true_eq_false, not_false_eq_true, false_implies, true_implies, implies_true, Classical.not_not, and_self]
    refine ⟨fun u => out (by omega), fun c1 => ⟨fun u => by omega, fun _ => ⟨fun u => out fun q => q.2 u, fun c2 => ?_⟩⟩⟩
    have hi : i < S.1 := by omega
    rw [ite_t ⟨hi, c2⟩] at K
    have vi := I.2.1 i i0 hi
    obtain ⟨v0, T⟩ := T
    rw [c_stateAt A.C i0 hi]
    show ob h 89 7 ∧ wp_X8_put h 89 (iI r) (iI (csA (S.2.1 i))) _
    have nb := csA_bd vi.1
    have Sp := (vi.2 r hr8.1 hr8.2).1
    have ins := (vi.2 r hr8.1 hr8.2).2.1
    have hl := A.hl
    refine ⟨SS.o89, c_put A.H A.L T.1 T.2.1 (by unfold LD; omega) gs.2.1 n2 hr8.1 hr8.2 nb.1 nb.2 fun g1 f1 r1 j1 => ?_⟩
    have ee := enc_pt (t := t) (r := r) vi.1
    have T1 : TR g1 89 la s (ptA t r (S.2.1 i)) z := T.put f1 e gs.2.1 n2 hr8.1 hr8.2 (fun j hj => by unfold ptA; rw [tr3_n hj, tr3_n hj]) Sp (in8_of n0 n1 ins) (by rw [ee]; exact r1) (by rw [ee]; exact j1)
    have A1 : AS h0 g1 qa0 qa la s t z r goal S := A.town f1.gr (by simp) (by simp) (by simp) f1.1 f1.2.1
    refine lf_for (W := fun k (b : AH × Nat) how => wl_X6_leastAlone_76 (wl_X6_leastAlone_35 post (dd + 1)) post k b.1 74 (iI r) (iI hr) (iI i) (iI how)) (lo := 0) (hi := 5) (fun how b => AS h0 b.1 qa0 b.2 la s t z r goal (bHead (nxA s t z r hr) (5 * r) how.toNat i S) ∧ TR b.1 89 la s (ptA t r (S.2.1 i)) z) (by omega) (fun k b how o0 o1 J nx => ?_) (fun k b J => ?_) (g1, qa) ⟨A1, T1⟩
    · obtain ⟨g, q⟩ := b
      obtain ⟨A2, T2⟩ := J
      have A2 : AS h0 g qa0 q la s t z r goal (bHead (nxA s t z r hr) (5 * r) how.toNat i S) := A2
      have T2 : TR g 89 la s (ptA t r (S.2.1 i)) z := T2
      show wb_X6_leastAlone_76 (wl_X6_leastAlone_35 post (dd + 1)) (wl_X6_leastAlone_76 (wl_X6_leastAlone_35 post (dd + 1)) post k) g 74 (iI r) (iI hr) (iI i) (iI how) post
      have S2 := A2.C.S
      have ex := bHead_ext (nx := nxA s t z r hr) (lo := 5 * r) (i := i) (S := S) how.toNat
      have I2 := bHead_I (nx := nxA s t z r hr) I i0 hi (fun v a hv a0 a1 hn => nxA_V hZ n0 n1 hr8.1 hr8.2 hv hn) how.toNat (by omega)
      have eq' := (ex.2 i hi).1
      unfold wb_X6_leastAlone_76 wb_X6_leastAlone_124
      simp (disch := omega) only [CSh.o0 S2, CSh.o1 S2, CSh.o2 S2, CSh.o3 S2, CSh.o26 S2, CSh.o27 S2, CSh.o29 S2, CSh.o30 S2, CSh.o31 S2, CSh.o56 S2, CSh.o57 S2, CSh.o58 S2, CSh.o62 S2, CSh.o66 S2, CSh.o70 S2, CSh.o74 S2, CSh.o75 S2, CSh.o77 S2, CSh.o79 S2, CSh.o80 S2, CSh.o81 S2, CSh.o82 S2, CSh.o83 S2, CSh.o84 S2, CSh.o85 S2, CSh.o86 S2, CSh.o87 S2, CSh.o88 S2, CSh.o53 S2, CSh.o54 S2, CSh.o55 S2, CSh.o59 S2, CSh.o60 S2, CSh.o61 S2, CSh.o63 S2, CSh.o64 S2, CSh.o65 S2, CSh.o67 S2, CSh.o68 S2, CSh.o69 S2, CSh.o71 S2, CSh.o72 S2, CSh.o73 S2, CSh.o89 S2, CSh.o90 S2, CSh.o91 S2, CSh.l1 S2, CSh.l3 S2, CSh.l27 S2, CSh.l29 S2, CSh.l30 S2, CSh.l56 S2, CSh.l57 S2, CSh.l58 S2, CSh.l75 S2, CSh.l77 S2, CSh.l79 S2, CSh.l81 S2, CSh.l82 S2, CSh.l83 S2, CSh.l84 S2, CSh.l85 S2, CSh.l86 S2, CSh.l87 S2, CSh.l88 S2, CSh.l54 S2, CSh.l55 S2, CSh.l60 S2, CSh.l61 S2, CSh.l64 S2, CSh.l65 S2, CSh.l68 S2, CSh.l69 S2, CSh.l72 S2, CSh.l73 S2, CSh.l90 S2, CSh.l91 S2, CSh.p0_0 S2, CSh.p0_3 S2, CSh.p0_4 S2, CSh.p0_5 S2, CSh.p0_6 S2, CSh.p0_7 S2, CSh.p0_8 S2, CSh.p0_9 S2, CSh.p0_10 S2, CSh.p0_14 S2, CSh.p2_0 S2, CSh.p26_0 S2, CSh.p26_13 S2, CSh.p26_14 S2, CSh.p31_1 S2, CSh.p31_3 S2, CSh.p31_4 S2, CSh.p62_0 S2, CSh.p66_0 S2, CSh.p70_0 S2, CSh.p74_0 S2, CSh.p74_1 S2, CSh.p74_6 S2, CSh.p74_7 S2, CSh.p74_10 S2, CSh.p80_1 S2, CSh.p80_2 S2, CSh.p80_3 S2, CSh.p80_4 S2, CSh.p80_5 S2, CSh.p80_6 S2, CSh.p80_7 S2, CSh.p80_8 S2, CSh.p53_1 S2, CSh.p53_2 S2, CSh.p59_1 S2, CSh.p59_2 S2, CSh.p63_1 S2, CSh.p63_2 S2, CSh.p67_1 S2, CSh.p67_2 S2, CSh.p71_1 S2, CSh.p71_2 S2, CSh.p89_1 S2, CSh.p89_2 S2, -Int.reduceToNat, -Int32.reduceToNatClampNeg, il0, il1, il2, il3, il4, il5, il6, il7, il8, il9, il10, il11, il12, il13, il14, il15, il16, il17, il18, il19, il20, il21, il22, il23, il24, il25, il26, il27, il28, il29, il30, il31, il32, il35, il36, il38, il40, il42, il43, il44, il45, il46, il47, il48, il49, il50, il51, il52, il57, il59, il60, il63, il64, il75, il80, il95, il96, il97, il98, il99, il100, il120, il122, il123, il127, il128, il135, il167, il175, il225, il249, il250, il255, il256, il360, il370, il384, il600, il700, il740, il900, il940, il1024, il1600, il4800, il64000, il125000, il262143, il1000000000, iI_toInt, iI_add, iI_sub, iI_mul, iI_neg, iI_lt, iI_le, iI_eq, iI_n, iI_in, iI_div, iI_mod, iI_shm, iI_and1, iI_and7, iI_and63, iI_shr3, iI_shr6, rd_I, ob, Option.some.injEq, exists_eq_left', exists_eq_left, true_and, and_true, fqI, fqJ, eq_self, true_or, or_true, bP_0, bP_0i, npP, bP_1i, bP_b, not_true_eq_false, not_false_eq_true, false_implies, true_implies, implies_true, Classical.not_not, and_self]
      refine ⟨fun u => by omega, fun _ => ?_⟩
      refine A2.act (hr := hr) (how := how) (i := i) (postV := fun hv => wl_X6_leastAlone_76 (wl_X6_leastAlone_35 post (dd + 1)) post k hv 74 (iI r) (iI hr) (iI i) (iI (how + 1))) I2 rm ⟨i0, by have := ex.1; omega⟩ gs e hr8 hh ⟨o0, o1⟩ (by rw [eq']; exact T2) fun h' q' A' T' => ?_
      rw [eq'] at T'
      refine nx (h', q') ⟨?_, T'⟩
      show AS h0 h' qa0 q' la s t z r goal (bHead (nxA s t z r hr) (5 * r) (how + 1).toNat i S)
      rw [show (how + 1).toNat = how.toNat + 1 by omega, bHead_s, show 5 * r + ((how.toNat : Nat) : Int) = 5 * r + how by omega]
      exact A'
    · obtain ⟨g, q⟩ := b
      obtain ⟨A2, T2⟩ := J
      have A2 : AS h0 g qa0 q la s t z r goal (bHead (nxA s t z r hr) (5 * r) 5 i S) := A2
      have T2 : TR g 89 la s (ptA t r (S.2.1 i)) z := T2
      show wb_X6_leastAlone_76 (wl_X6_leastAlone_35 post (dd + 1)) (wl_X6_leastAlone_76 (wl_X6_leastAlone_35 post (dd + 1)) post k) g 74 (iI r) (iI hr) (iI i) (iI 5) post
      have I2 := bHead_I (nx := nxA s t z r hr) I i0 hi (fun v a hv a0 a1 hn => nxA_V hZ n0 n1 hr8.1 hr8.2 hv hn) 5 (by omega)
      unfold wb_X6_leastAlone_76
      simp (disch := omega) only [-Int.reduceToNat, -Int32.reduceToNatClampNeg, il0, il1, il2, il3, il4, il5, il6, il7, il8, il9, il10, il11, il12, il13, il14, il15, il16, il17, il18, il19, il20, il21, il22, il23, il24, il25, il26, il27, il28, il29, il30, il31, il32, il35, il36, il38, il40, il42, il43, il44, il45, il46, il47, il48, il49, il50, il51, il52, il57, il59, il60, il63, il64, il75, il80, il95, il96, il97, il98, il99, il100, il120, il122, il123, il127, il128, il135, il167, il175, il225, il249, il250, il255, il256, il360, il370, il384, il600, il700, il740, il900, il940, il1024, il1600, il4800, il64000, il125000, il262143, il1000000000, iI_toInt, iI_add, iI_sub, iI_mul, iI_neg, iI_lt, iI_le, iI_eq, iI_n, iI_in, iI_div, iI_mod, iI_shm, iI_and1, iI_and7, iI_and63, iI_shr3, iI_shr6, rd_I, ob, Option.some.injEq, exists_eq_left', exists_eq_left, true_and, and_true, fqI, fqJ, eq_self, true_or, or_true, bP_0, bP_0i, npP, bP_1i, bP_b, not_true_eq_false, not_false_eq_true, false_implies, true_implies, implies_true, Classical.not_not, and_self]
      refine ⟨fun _ => ih (i + 1) _ g q A2 I2 (by omega) (by omega) ⟨_, T2⟩ K, fun u => by omega⟩
/-- where the class's search for ALONE ends -/
noncomputable def runC (s : Int → Int) (r hr goal : Int) : BS := bRun (nxA s (tS s) (zC s) r hr) (5 * r) 5 (fun _ S => seenB S goal) 128 0 (bGo (plc (tS s) r))
def sGi (ac : Nat) : List Nat := [74, 77, 81, 82, 84, 85, 87, 90, ac]
def sGj (qa : Nat) : List Nat := [75, 83, 86, 88, 91, qa]
def sGq : List (Nat × Nat) := [(74, 2), (74, 8), (80, 0), (89, 0)]
/-- what a search leaves in the class, found or not: v is how many ACTS, or -1 -/
def SO (h h' : AH) (qa ac qa' ac' : Nat) (v : Int) (Y : Nat → Int) : Prop := (Gr (sGi ac) (sGj qa) sGq h h') ∧ (∀ j, j = 13 ∨ j = 14 → rd h' 74 j = rd h 74 j) ∧ (aP h' 74 2 = some qa') ∧ (ob h' qa' 14) ∧ (256 ≤ aL h' qa' ∧ aL h' qa' ≤ 128000) ∧ (qa' = 76 ∨ 119 ≤ qa') ∧ (qa' = qa ∨ aN h ≤ qa') ∧ (aP h' 74 8 = some ac') ∧ (ob h' ac' 13) ∧ (64 ≤ aL h' ac' ∧ aL h' ac' ≤ 128000) ∧ (ac' = 78 ∨ 119 ≤ ac') ∧ (ac' = ac ∨ aN h ≤ ac') ∧ (aN h' ≤ aN h + 600) ∧ (aS h' + 2 * aL h qa + 2 * aL h ac ≤ aS h + 2 * aL h' qa' + 2 * aL h' ac') ∧ ((v = -1 ∧ rd h' 74 9 = rd h 74 9 ∧ ac' = ac ∧ rd h' ac = rd h ac) ∨ (0 ≤ v ∧ v ≤ 64000 ∧ v ≤ aL h' ac' ∧ rd h' 74 9 = v ∧ ∀ k : Nat, (k : Int) < v → rd h' ac' (v - 1 - k) = Y k))
theorem SO.G {h h' : AH} {qa ac qa' ac' : Nat} {v : Int} {Y : Nat → Int} (R : SO h h' qa ac qa' ac' v Y) : Gr (sGi ac) (sGj qa) sGq h h' := R.1
theorem SO.r74 {h h' : AH} {qa ac qa' ac' : Nat} {v : Int} {Y : Nat → Int} (R : SO h h' qa ac qa' ac' v Y) : ∀ j, j = 13 ∨ j = 14 → rd h' 74 j = rd h 74 j := R.2.1
theorem SO.p2 {h h' : AH} {qa ac qa' ac' : Nat} {v : Int} {Y : Nat → Int} (R : SO h h' qa ac qa' ac' v Y) : aP h' 74 2 = some qa' := R.2.2.1
theorem SO.oq {h h' : AH} {qa ac qa' ac' : Nat} {v : Int} {Y : Nat → Int} (R : SO h h' qa ac qa' ac' v Y) : ob h' qa' 14 := R.2.2.2.1
theorem SO.ql {h h' : AH} {qa ac qa' ac' : Nat} {v : Int} {Y : Nat → Int} (R : SO h h' qa ac qa' ac' v Y) : 256 ≤ aL h' qa' ∧ aL h' qa' ≤ 128000 := R.2.2.2.2.1
theorem SO.qd {h h' : AH} {qa ac qa' ac' : Nat} {v : Int} {Y : Nat → Int} (R : SO h h' qa ac qa' ac' v Y) : qa' = 76 ∨ 119 ≤ qa' := R.2.2.2.2.2.1
theorem SO.qn {h h' : AH} {qa ac qa' ac' : Nat} {v : Int} {Y : Nat → Int} (R : SO h h' qa ac qa' ac' v Y) : qa' = qa ∨ aN h ≤ qa' := R.2.2.2.2.2.2.1
theorem SO.p8 {h h' : AH} {qa ac qa' ac' : Nat} {v : Int} {Y : Nat → Int} (R : SO h h' qa ac qa' ac' v Y) : aP h' 74 8 = some ac' := R.2.2.2.2.2.2.2.1
theorem SO.oa {h h' : AH} {qa ac qa' ac' : Nat} {v : Int} {Y : Nat → Int} (R : SO h h' qa ac qa' ac' v Y) : ob h' ac' 13 := R.2.2.2.2.2.2.2.2.1
theorem SO.al {h h' : AH} {qa ac qa' ac' : Nat} {v : Int} {Y : Nat → Int} (R : SO h h' qa ac qa' ac' v Y) : 64 ≤ aL h' ac' ∧ aL h' ac' ≤ 128000 := R.2.2.2.2.2.2.2.2.2.1
theorem SO.ad {h h' : AH} {qa ac qa' ac' : Nat} {v : Int} {Y : Nat → Int} (R : SO h h' qa ac qa' ac' v Y) : ac' = 78 ∨ 119 ≤ ac' := R.2.2.2.2.2.2.2.2.2.2.1
theorem SO.an {h h' : AH} {qa ac qa' ac' : Nat} {v : Int} {Y : Nat → Int} (R : SO h h' qa ac qa' ac' v Y) : ac' = ac ∨ aN h ≤ ac' := R.2.2.2.2.2.2.2.2.2.2.2.1
theorem SO.rN {h h' : AH} {qa ac qa' ac' : Nat} {v : Int} {Y : Nat → Int} (R : SO h h' qa ac qa' ac' v Y) : aN h' ≤ aN h + 600 := R.2.2.2.2.2.2.2.2.2.2.2.2.1
theorem SO.rS {h h' : AH} {qa ac qa' ac' : Nat} {v : Int} {Y : Nat → Int} (R : SO h h' qa ac qa' ac' v Y) : aS h' + 2 * aL h qa + 2 * aL h ac ≤ aS h + 2 * aL h' qa' + 2 * aL h' ac' := R.2.2.2.2.2.2.2.2.2.2.2.2.2.1
theorem SO.vv {h h' : AH} {qa ac qa' ac' : Nat} {v : Int} {Y : Nat → Int} (R : SO h h' qa ac qa' ac' v Y) : (v = -1 ∧ rd h' 74 9 = rd h 74 9 ∧ ac' = ac ∧ rd h' ac = rd h ac) ∨ (0 ≤ v ∧ v ≤ 64000 ∧ v ≤ aL h' ac' ∧ rd h' 74 9 = v ∧ ∀ k : Nat, (k : Int) < v → rd h' ac' (v - 1 - k) = Y k) := R.2.2.2.2.2.2.2.2.2.2.2.2.2.2
theorem cX_alone (I : Inv h i0 la fr qa ac) (hi512 : i0 ≤ 512) (hx : -2147483648 ≤ r ∧ r < 2147483648) (p1 : -2147483648 ≤ x ∧ x < 2147483648) (p2 : -2147483648 ≤ y ∧ y < 2147483648) (p3 : -2147483648 ≤ u ∧ u < 2147483648) (p4 : -2147483648 ≤ hr ∧ hr < 2147483648)
    (KN : ¬ (spOk (rd h 94) (tS (rd h 94)) r x y u ∧ 0 ≤ hr ∧ hr < 24) → post h (iI (-2)))
    (K0 : ∀ h' qa' goal, spOk (rd h 94) (tS (rd h 94)) r x y u ∧ 0 ≤ hr ∧ hr < 24 → goal = plc (lyT (rd h 94) (tS (rd h 94)) r x y u) r → ¬ seenB (runC (rd h 94) r hr goal) goal → SO h h' qa ac qa' ac (-1) (fun _ => 0) → post h' (iI (-1)))
    (K1 : ∀ h' qa' ac' goal pl, spOk (rd h 94) (tS (rd h 94)) r x y u ∧ 0 ≤ hr ∧ hr < 24 → goal = plc (lyT (rd h 94) (tS (rd h 94)) r x y u) r → 0 ≤ pl → pl < (runC (rd h 94) r hr goal).1 → (runC (rd h 94) r hr goal).2.1 pl = goal → SO h h' qa ac qa' ac' (dpt (runC (rd h 94) r hr goal).2.2.1 pl) (fun k => dcd ((runC (rd h 94) r hr goal).2.2.2 (anc (runC (rd h 94) r hr goal).2.2.1 k pl))) → post h' (iI (dpt (runC (rd h 94) r hr goal).2.2.1 pl))) : wp_X11_alone h 0 (iI r) (iI x) (iI y) (iI u) (iI hr) post := by
  obtain ⟨S, M, hl, hp, H, L, T, hG, hZ⟩ := I.core
  have bd := hG.bd
  have Iq := I.q
  have Ir := I.rm
  have lt := fun (a : Nat) (ha : a ≤ 118) => I.lt ha
  unfold wp_X11_alone
  rw [show (iI (-2)) = (-2 : Int32) from rfl] at KN
  refine ⟨S.o0, (c_spotFor (t := tS (rd h 94)) I hx.1 hx.2 p1.1 p1.2 p2.1 p2.2 p3.1 p3.2).mpr ?_⟩
  by_cases cs : spOk (rd h 94) (tS (rd h 94)) r x y u
  case neg =>
    rw [ite_f cs]
    exact ⟨fun _ => KN fun q => cs q.1, fun q => absurd (by decide) q⟩
  rw [ite_t cs]
  obtain ⟨⟨r0, r1⟩, ⟨x0, x1, y0, y1⟩, ⟨u0, u1⟩, ins⟩ := id cs
  generalize hs : rd h 94 = s at *
  have hZr := hG.z1 r0 r1
  have SpG : Spot (lyT s (tS s) r x y u) (zC s) r := by
    unfold lyT Spot
    rw [tr3_0, tr3_1, tr3_2]
    refine ⟨by omega, by omega, by split <;> omega, fun e => by rw [if_pos e]⟩
  have eg := csA_plc SpG
  have eb := enc_nums SpG
  have SpT := (hG.vt r r0 r1).1
  have es := csA_plc SpT
  have eb2 := enc_nums SpT
  generalize hgo : plc (lyT s (tS s) r x y u) r = goal at *
  have hg : 0 ≤ goal ∧ goal < 128 := by
    rw [← hgo]
    obtain ⟨⟨a1, a2⟩, ⟨b1, b2⟩, ⟨c1, c2⟩, -⟩ := SpG
    unfold plc; omega
  generalize hst : plc (tS s) r = st at *
  have hstb : 0 ≤ st ∧ st < 128 := by
    rw [← hst]
    obtain ⟨⟨a1, a2⟩, ⟨b1, b2⟩, ⟨c1, c2⟩, -⟩ := SpT
    unfold plc; omega
  rw [← eg] at eb ⊢
  rw [← es] at eb2
  refine ⟨fun q => by rw [show (0 : Int32) = iI 0 from rfl, iI_lt (by omega) (by omega) (by omega) (by omega)] at q; omega, fun _ => ?_⟩
  have p31 : aP h 31 1 = some 53 := S.p31_1
  simp (disch := omega) only [CSh.o0 S, CSh.o1 S, CSh.o2 S, CSh.o3 S, CSh.o26 S, CSh.o27 S, CSh.o29 S, CSh.o30 S, CSh.o31 S, CSh.o56 S, CSh.o57 S, CSh.o58 S, CSh.o62 S, CSh.o66 S, CSh.o70 S, CSh.o74 S, CSh.o75 S, CSh.o77 S, CSh.o79 S, CSh.o80 S, CSh.o81 S, CSh.o82 S, CSh.o83 S, CSh.o84 S, CSh.o85 S, CSh.o86 S, CSh.o87 S, CSh.o88 S, CSh.o53 S, CSh.o54 S, CSh.o55 S, CSh.o59 S, CSh.o60 S, CSh.o61 S, CSh.o63 S, CSh.o64 S, CSh.o65 S, CSh.o67 S, CSh.o68 S, CSh.o69 S, CSh.o71 S, CSh.o72 S, CSh.o73 S, CSh.o89 S, CSh.o90 S, CSh.o91 S, CSh.l1 S, CSh.l3 S, CSh.l27 S, CSh.l29 S, CSh.l30 S, CSh.l56 S, CSh.l57 S, CSh.l58 S, CSh.l75 S, CSh.l77 S, CSh.l79 S, CSh.l81 S, CSh.l82 S, CSh.l83 S, CSh.l84 S, CSh.l85 S, CSh.l86 S, CSh.l87 S, CSh.l88 S, CSh.l54 S, CSh.l55 S, CSh.l60 S, CSh.l61 S, CSh.l64 S, CSh.l65 S, CSh.l68 S, CSh.l69 S, CSh.l72 S, CSh.l73 S, CSh.l90 S, CSh.l91 S, CSh.p0_0 S, CSh.p0_3 S, CSh.p0_4 S, CSh.p0_5 S, CSh.p0_6 S, CSh.p0_7 S, CSh.p0_8 S, CSh.p0_9 S, CSh.p0_10 S, CSh.p0_14 S, CSh.p2_0 S, CSh.p26_0 S, CSh.p26_13 S, CSh.p26_14 S, CSh.p31_1 S, CSh.p31_3 S, CSh.p31_4 S, CSh.p62_0 S, CSh.p66_0 S, CSh.p70_0 S, CSh.p74_0 S, CSh.p74_1 S, CSh.p74_6 S, CSh.p74_7 S, CSh.p74_10 S, CSh.p80_1 S, CSh.p80_2 S, CSh.p80_3 S, CSh.p80_4 S, CSh.p80_5 S, CSh.p80_6 S, CSh.p80_7 S, CSh.p80_8 S, CSh.p53_1 S, CSh.p53_2 S, CSh.p59_1 S, CSh.p59_2 S, CSh.p63_1 S, CSh.p63_2 S, CSh.p67_1 S, CSh.p67_2 S, CSh.p71_1 S, CSh.p71_2 S, CSh.p89_1 S, CSh.p89_2 S, hp, c_isHour, -Int.reduceToNat, -Int32.reduceToNatClampNeg, il0, il1, il2, il3, il4, il5, il6, il7, il8, il9, il10, il11, il12, il13, il14, il15, il16, il17, il18, il19, il20, il21, il22, il23, il24, il25, il26, il27, il28, il29, il30, il31, il32, il35, il36, il38, il40, il42, il43, il44, il45, il46, il47, il48, il49, il50, il51, il52, il57, il59, il60, il63, il64, il75, il80, il95, il96, il97, il98, il99, il100, il120, il122, il123, il127, il128, il135, il167, il175, il225, il249, il250, il255, il256, il360, il370, il384, il600, il700, il740, il900, il940, il1024, il1600, il4800, il64000, il125000, il262143, il1000000000, iI_toInt, iI_add, iI_sub, iI_mul, iI_neg, iI_lt, iI_le, iI_eq, iI_n, iI_in, iI_div, iI_mod, iI_shm, iI_and1, iI_and7, iI_and63, iI_shr3, iI_shr6, rd_I, ob, Option.some.injEq, exists_eq_left', exists_eq_left, true_and, and_true, fqI, fqJ, eq_self, true_or, or_true, bP_0, bP_0i, npP, bP_1i, bP_b, not_true_eq_false, not_false_eq_true, false_implies, true_implies, implies_true, Classical.not_not, and_self]
  refine ⟨fun hh => ?_, fun nh => KN fun q => nh q.2⟩
  have K0 := fun h' qa' => K0 h' qa' goal ⟨cs, hh⟩ rfl
  have K1 := fun h' qa' ac' pl => K1 h' qa' ac' goal pl ⟨cs, hh⟩ rfl
  obtain ⟨q1, q2, q3, q4, q5, q6, q7, q8, q9, q10, q11⟩ := Iq
  have rm : aN h ≤ 400000 ∧ aS h ≤ 4000000 := by have := I.room hi512; omega
  have n0 : 119 ≤ aN h := lt 118 (by omega)
  unfold wp_X6_leastAlone
  simp (disch := omega) only [CSh.o0 S, CSh.o1 S, CSh.o2 S, CSh.o3 S, CSh.o26 S, CSh.o27 S, CSh.o29 S, CSh.o30 S, CSh.o31 S, CSh.o56 S, CSh.o57 S, CSh.o58 S, CSh.o62 S, CSh.o66 S, CSh.o70 S, CSh.o74 S, CSh.o75 S, CSh.o77 S, CSh.o79 S, CSh.o80 S, CSh.o81 S, CSh.o82 S, CSh.o83 S, CSh.o84 S, CSh.o85 S, CSh.o86 S, CSh.o87 S, CSh.o88 S, CSh.o53 S, CSh.o54 S, CSh.o55 S, CSh.o59 S, CSh.o60 S, CSh.o61 S, CSh.o63 S, CSh.o64 S, CSh.o65 S, CSh.o67 S, CSh.o68 S, CSh.o69 S, CSh.o71 S, CSh.o72 S, CSh.o73 S, CSh.o89 S, CSh.o90 S, CSh.o91 S, CSh.l1 S, CSh.l3 S, CSh.l27 S, CSh.l29 S, CSh.l30 S, CSh.l56 S, CSh.l57 S, CSh.l58 S, CSh.l75 S, CSh.l77 S, CSh.l79 S, CSh.l81 S, CSh.l82 S, CSh.l83 S, CSh.l84 S, CSh.l85 S, CSh.l86 S, CSh.l87 S, CSh.l88 S, CSh.l54 S, CSh.l55 S, CSh.l60 S, CSh.l61 S, CSh.l64 S, CSh.l65 S, CSh.l68 S, CSh.l69 S, CSh.l72 S, CSh.l73 S, CSh.l90 S, CSh.l91 S, CSh.p0_0 S, CSh.p0_3 S, CSh.p0_4 S, CSh.p0_5 S, CSh.p0_6 S, CSh.p0_7 S, CSh.p0_8 S, CSh.p0_9 S, CSh.p0_10 S, CSh.p0_14 S, CSh.p2_0 S, CSh.p26_0 S, CSh.p26_13 S, CSh.p26_14 S, CSh.p31_1 S, CSh.p31_3 S, CSh.p31_4 S, CSh.p62_0 S, CSh.p66_0 S, CSh.p70_0 S, CSh.p74_0 S, CSh.p74_1 S, CSh.p74_6 S, CSh.p74_7 S, CSh.p74_10 S, CSh.p80_1 S, CSh.p80_2 S, CSh.p80_3 S, CSh.p80_4 S, CSh.p80_5 S, CSh.p80_6 S, CSh.p80_7 S, CSh.p80_8 S, CSh.p53_1 S, CSh.p53_2 S, CSh.p59_1 S, CSh.p59_2 S, CSh.p63_1 S, CSh.p63_2 S, CSh.p67_1 S, CSh.p67_2 S, CSh.p71_1 S, CSh.p71_2 S, CSh.p89_1 S, CSh.p89_2 S, -Int.reduceToNat, -Int32.reduceToNatClampNeg, il0, il1, il2, il3, il4, il5, il6, il7, il8, il9, il10, il11, il12, il13, il14, il15, il16, il17, il18, il19, il20, il21, il22, il23, il24, il25, il26, il27, il28, il29, il30, il31, il32, il35, il36, il38, il40, il42, il43, il44, il45, il46, il47, il48, il49, il50, il51, il52, il57, il59, il60, il63, il64, il75, il80, il95, il96, il97, il98, il99, il100, il120, il122, il123, il127, il128, il135, il167, il175, il225, il249, il250, il255, il256, il360, il370, il384, il600, il700, il740, il900, il940, il1024, il1600, il4800, il64000, il125000, il262143, il1000000000, ob, Option.some.injEq, exists_eq_left', exists_eq_left, true_and, and_true, fqI, fqJ, eq_self, true_or, or_true, bP_0, bP_0i, npP, bP_1i, bP_b, not_true_eq_false, not_false_eq_true, false_implies, true_implies, implies_true, Classical.not_not, and_self]
  have T89 : TB h 89 := ⟨S.o89, S.p89_1, S.o90, S.l90, S.p89_2, S.o91, S.l91⟩
  refine c_follow (lb := la) T89 T.1 (by omega) fun g1 F1 pl1 pj1 rr1 jj1 => ?_
  have G1 : Gr [90] [91] [(89, 0)] h g1 := F1.gr1 (by decide) pj1
  have S1 := S.gr G1
  have T1 : TR g1 89 la s (tS s) (zC s) := ⟨T89.gr G1 (by intro k hk; unfold DynP; simp [hk]), pl1, fun o o0 o1 => by rw [rr1 o o0 (by omega)]; exact T.2.2.1 o o0 o1, fun o o0 o1 a b a0 a1 b0 b1 => by rw [jj1 o o0 (by omega)]; exact T.2.2.2 o o0 o1 a b a0 a1 b0 b1⟩
  have e54 : rd g1 54 r = csA st := by rw [F1.row (by simp)]; rw [es]; exact T.2.2.1 r r0 r1
  simp (disch := omega) only [CSh.o0 S1, CSh.o1 S1, CSh.o2 S1, CSh.o3 S1, CSh.o26 S1, CSh.o27 S1, CSh.o29 S1, CSh.o30 S1, CSh.o31 S1, CSh.o56 S1, CSh.o57 S1, CSh.o58 S1, CSh.o62 S1, CSh.o66 S1, CSh.o70 S1, CSh.o74 S1, CSh.o75 S1, CSh.o77 S1, CSh.o79 S1, CSh.o80 S1, CSh.o81 S1, CSh.o82 S1, CSh.o83 S1, CSh.o84 S1, CSh.o85 S1, CSh.o86 S1, CSh.o87 S1, CSh.o88 S1, CSh.o53 S1, CSh.o54 S1, CSh.o55 S1, CSh.o59 S1, CSh.o60 S1, CSh.o61 S1, CSh.o63 S1, CSh.o64 S1, CSh.o65 S1, CSh.o67 S1, CSh.o68 S1, CSh.o69 S1, CSh.o71 S1, CSh.o72 S1, CSh.o73 S1, CSh.o89 S1, CSh.o90 S1, CSh.o91 S1, CSh.l1 S1, CSh.l3 S1, CSh.l27 S1, CSh.l29 S1, CSh.l30 S1, CSh.l56 S1, CSh.l57 S1, CSh.l58 S1, CSh.l75 S1, CSh.l77 S1, CSh.l79 S1, CSh.l81 S1, CSh.l82 S1, CSh.l83 S1, CSh.l84 S1, CSh.l85 S1, CSh.l86 S1, CSh.l87 S1, CSh.l88 S1, CSh.l54 S1, CSh.l55 S1, CSh.l60 S1, CSh.l61 S1, CSh.l64 S1, CSh.l65 S1, CSh.l68 S1, CSh.l69 S1, CSh.l72 S1, CSh.l73 S1, CSh.l90 S1, CSh.l91 S1, CSh.p0_0 S1, CSh.p0_3 S1, CSh.p0_4 S1, CSh.p0_5 S1, CSh.p0_6 S1, CSh.p0_7 S1, CSh.p0_8 S1, CSh.p0_9 S1, CSh.p0_10 S1, CSh.p0_14 S1, CSh.p2_0 S1, CSh.p26_0 S1, CSh.p26_13 S1, CSh.p26_14 S1, CSh.p31_1 S1, CSh.p31_3 S1, CSh.p31_4 S1, CSh.p62_0 S1, CSh.p66_0 S1, CSh.p70_0 S1, CSh.p74_0 S1, CSh.p74_1 S1, CSh.p74_6 S1, CSh.p74_7 S1, CSh.p74_10 S1, CSh.p80_1 S1, CSh.p80_2 S1, CSh.p80_3 S1, CSh.p80_4 S1, CSh.p80_5 S1, CSh.p80_6 S1, CSh.p80_7 S1, CSh.p80_8 S1, CSh.p53_1 S1, CSh.p53_2 S1, CSh.p59_1 S1, CSh.p59_2 S1, CSh.p63_1 S1, CSh.p63_2 S1, CSh.p67_1 S1, CSh.p67_2 S1, CSh.p71_1 S1, CSh.p71_2 S1, CSh.p89_1 S1, CSh.p89_2 S1, e54, fd0, fd1, fd2, fd3, fd4, fd5, fd6, fd7, fd8, fd9, fd10, fd11, fd12, fd13, fd14, fd15, fd16, fd17, fd18, fd19, fd20, fd21, fd22, fd23, fd24, fd25, fd26, fd27, fd28, fd29, fd30, fd31, fd32, fd33, fd34, fd35, fd36, fd37, fd38, fd39, fd40, fd41, fd42, fd43, fd44, fd45, fd46, fd47, fd48, fd49, fd50, fd51, fd52, -Int.reduceToNat, -Int32.reduceToNatClampNeg, il0, il1, il2, il3, il4, il5, il6, il7, il8, il9, il10, il11, il12, il13, il14, il15, il16, il17, il18, il19, il20, il21, il22, il23, il24, il25, il26, il27, il28, il29, il30, il31, il32, il35, il36, il38, il40, il42, il43, il44, il45, il46, il47, il48, il49, il50, il51, il52, il57, il59, il60, il63, il64, il75, il80, il95, il96, il97, il98, il99, il100, il120, il122, il123, il127, il128, il135, il167, il175, il225, il249, il250, il255, il256, il360, il370, il384, il600, il700, il740, il900, il940, il1024, il1600, il4800, il64000, il125000, il262143, il1000000000, iI_toInt, iI_add, iI_sub, iI_mul, iI_neg, iI_lt, iI_le, iI_eq, iI_n, iI_in, iI_div, iI_mod, iI_shm, iI_and1, iI_and7, iI_and63, iI_shr3, iI_shr6, rd_I, ob, Option.some.injEq, exists_eq_left', exists_eq_left, true_and, and_true, fqI, fqJ, eq_self, true_or, or_true, bP_0, bP_0i, npP, bP_1i, bP_b, not_true_eq_false, not_false_eq_true, false_implies, true_implies, implies_true, Classical.not_not, and_self]
  have gb := csA_bd hg
  have sb' := csA_bd hstb
  have q76 : qa ≠ 90 ∧ qa ≠ 91 ∧ qa ≠ 89 := by omega
  refine c_start S1 n0 rm (G1.mono (wi' := sWi) (wj' := sWj qa) (wq' := sWq) (by unfold sWi; simp) (by unfold sWj; simp) (by unfold sWq; simp) (by unfold sWq; decide)) F1.1 F1.2.1 ((G1.dyn S.o74.2 (by decide)).trans q1) (G1.ob q2) (by rw [G1.len q2.2]; exact q3) (G1.len q2.2) q10 (fun j _ => by rw [F1.row (by simp)]) (by omega) (by omega) fun g2 qa2 C2 G2 z2 ro2 => ?_
  have S2 := C2.S
  have qd2 := C2.qd
  have e54 : rd g2 54 r = csA st := by rw [G2.row S1.o54.2 (by simp)]; exact e54
  simp (disch := omega) only [CSh.o0 S2, CSh.o1 S2, CSh.o2 S2, CSh.o3 S2, CSh.o26 S2, CSh.o27 S2, CSh.o29 S2, CSh.o30 S2, CSh.o31 S2, CSh.o56 S2, CSh.o57 S2, CSh.o58 S2, CSh.o62 S2, CSh.o66 S2, CSh.o70 S2, CSh.o74 S2, CSh.o75 S2, CSh.o77 S2, CSh.o79 S2, CSh.o80 S2, CSh.o81 S2, CSh.o82 S2, CSh.o83 S2, CSh.o84 S2, CSh.o85 S2, CSh.o86 S2, CSh.o87 S2, CSh.o88 S2, CSh.o53 S2, CSh.o54 S2, CSh.o55 S2, CSh.o59 S2, CSh.o60 S2, CSh.o61 S2, CSh.o63 S2, CSh.o64 S2, CSh.o65 S2, CSh.o67 S2, CSh.o68 S2, CSh.o69 S2, CSh.o71 S2, CSh.o72 S2, CSh.o73 S2, CSh.o89 S2, CSh.o90 S2, CSh.o91 S2, CSh.l1 S2, CSh.l3 S2, CSh.l27 S2, CSh.l29 S2, CSh.l30 S2, CSh.l56 S2, CSh.l57 S2, CSh.l58 S2, CSh.l75 S2, CSh.l77 S2, CSh.l79 S2, CSh.l81 S2, CSh.l82 S2, CSh.l83 S2, CSh.l84 S2, CSh.l85 S2, CSh.l86 S2, CSh.l87 S2, CSh.l88 S2, CSh.l54 S2, CSh.l55 S2, CSh.l60 S2, CSh.l61 S2, CSh.l64 S2, CSh.l65 S2, CSh.l68 S2, CSh.l69 S2, CSh.l72 S2, CSh.l73 S2, CSh.l90 S2, CSh.l91 S2, CSh.p0_0 S2, CSh.p0_3 S2, CSh.p0_4 S2, CSh.p0_5 S2, CSh.p0_6 S2, CSh.p0_7 S2, CSh.p0_8 S2, CSh.p0_9 S2, CSh.p0_10 S2, CSh.p0_14 S2, CSh.p2_0 S2, CSh.p26_0 S2, CSh.p26_13 S2, CSh.p26_14 S2, CSh.p31_1 S2, CSh.p31_3 S2, CSh.p31_4 S2, CSh.p62_0 S2, CSh.p66_0 S2, CSh.p70_0 S2, CSh.p74_0 S2, CSh.p74_1 S2, CSh.p74_6 S2, CSh.p74_7 S2, CSh.p74_10 S2, CSh.p80_1 S2, CSh.p80_2 S2, CSh.p80_3 S2, CSh.p80_4 S2, CSh.p80_5 S2, CSh.p80_6 S2, CSh.p80_7 S2, CSh.p80_8 S2, CSh.p53_1 S2, CSh.p53_2 S2, CSh.p59_1 S2, CSh.p59_2 S2, CSh.p63_1 S2, CSh.p63_2 S2, CSh.p67_1 S2, CSh.p67_2 S2, CSh.p71_1 S2, CSh.p71_2 S2, CSh.p89_1 S2, CSh.p89_2 S2, e54, fd0, fd1, fd2, fd3, fd4, fd5, fd6, fd7, fd8, fd9, fd10, fd11, fd12, fd13, fd14, fd15, fd16, fd17, fd18, fd19, fd20, fd21, fd22, fd23, fd24, fd25, fd26, fd27, fd28, fd29, fd30, fd31, fd32, fd33, fd34, fd35, fd36, fd37, fd38, fd39, fd40, fd41, fd42, fd43, fd44, fd45, fd46, fd47, fd48, fd49, fd50, fd51, fd52, -Int.reduceToNat, -Int32.reduceToNatClampNeg, il0, il1, il2, il3, il4, il5, il6, il7, il8, il9, il10, il11, il12, il13, il14, il15, il16, il17, il18, il19, il20, il21, il22, il23, il24, il25, il26, il27, il28, il29, il30, il31, il32, il35, il36, il38, il40, il42, il43, il44, il45, il46, il47, il48, il49, il50, il51, il52, il57, il59, il60, il63, il64, il75, il80, il95, il96, il97, il98, il99, il100, il120, il122, il123, il127, il128, il135, il167, il175, il225, il249, il250, il255, il256, il360, il370, il384, il600, il700, il740, il900, il940, il1024, il1600, il4800, il64000, il125000, il262143, il1000000000, iI_toInt, iI_add, iI_sub, iI_mul, iI_neg, iI_lt, iI_le, iI_eq, iI_n, iI_in, iI_div, iI_mod, iI_shm, iI_and1, iI_and7, iI_and63, iI_shr3, iI_shr6, rd_I, ob, Option.some.injEq, exists_eq_left', exists_eq_left, true_and, and_true, fqI, fqJ, eq_self, true_or, or_true, bP_0, bP_0i, npP, bP_1i, bP_b, not_true_eq_false, not_false_eq_true, false_implies, true_implies, implies_true, Classical.not_not, and_self]
  have s2 : ∀ w, 0 ≤ w → w < 128 → ¬ snA g2 w := fun w w0 w1 => by
    unfold snA
    rw [z2 _ (by omega)]
    exact zb_0 _
  have hl' : la = 5 ∨ la = 32 := hl
  refine c_isNewSpot S2 sb' (fun g3 _ f3 s3 => ?_) (fun q => absurd q (s2 _ sb'.1 sb'.2))
  have S3 := S2.gr f3.gr
  have H2 : LB g2 la := (H.gr G1 (by omega)).gr G2 (by omega)
  have L2 : LR g2 la s := (L.grw H G1 (fun j hj => by simp; omega) (fun j hj => by simp; omega)).grw (H.gr G1 (by omega)) G2 (fun j hj => by simp; omega) (fun j hj => by simp; omega)
  have C3 : CQ h g3 qa qa2 1 (csA goal) (fun _ => csA st) (fun _ => 0) (fun _ => 0) := by
    obtain ⟨SS, G, m0, p2, oq, ql, qd, nw, rN, rS, tt, tb, tl, gl, gg, qq, xb, ro⟩ := C2
    have q7 : qa2 ∉ [75] := by simp; omega
    exact ⟨S3, G.via f3.gr (fun a _ q => absurd q List.not_mem_nil) (fun a _ q => by rw [List.mem_singleton.mp q]; unfold sWj; simp) (fun a k _ q => absurd q List.not_mem_nil), m0, by rw [f3.aPe]; exact p2, f3.gr.ob oq, by rw [f3.2.2.2.1]; exact ql, qd, nw, by rw [f3.1, f3.2.2.2.1]; exact rN, by rw [f3.2.1, f3.2.2.2.1]; exact rS, by rw [f3.row (by simp)]; exact tt, tb, by rw [f3.2.2.2.1]; exact tl, by rw [f3.row (by simp)]; exact gl, by rw [f3.row (by simp)]; exact gg, fun j j0 j1 => by rw [f3.2.2.2.2.2.1 qa2 q7]; exact qq j j0 j1, xb, fun j hj => by rw [f3.row (by simp)]; exact ro j hj⟩
  have A3 : AS h g3 qa qa2 la s (tS s) (zC s) r goal (bGo st) := ⟨C3, fun w w0 w1 => by
    rw [s3 w w0 w1]
    exact ⟨fun q => q.elim (fun q => absurd q (s2 w w0 w1)) (fun q => ⟨0, Int.le_refl _, by show (0 : Int) < 1; omega, q.symm⟩), fun ⟨j, j0, j1, j2⟩ => Or.inr j2.symm⟩, H2.gr f3.gr (by omega), L2.grw H2 f3.gr (fun j _ => List.not_mem_nil) (fun j hj => by simp; omega), hl'⟩
  have pid : ptA (tS s) r st = tS s := by rw [← hst]; exact (pt_id SpT).symm
  have I3 : BI (VA s (tS s) (zC s) r) (5 * r) (5 * r + 5) (bGo st) := BI.go ⟨hstb, by rw [pid]; exact hG.vt⟩
  have T3 : TR g3 89 la s (ptA (tS s) r st) (zC s) := by
    rw [pid]
    exact (T1.gr G2 (by intro k hk; unfold DynP; simp [hk]) (by simp) (by simp) (by simp; omega)).gr f3.gr (by intro k hk; unfold DynP; simp [hk]) List.not_mem_nil List.not_mem_nil (by simp)
  refine ⟨_, c_aloneLoop rm hG.1 (EZ.c s) ⟨r0, r1⟩ hh hg 128 0 (bGo st) g3 qa2 A3 I3 (by omega) (by omega) ⟨st, T3⟩ fun g4 qa4 A4 I4 => ?_⟩
  have hrun : bRun (nxA s (tS s) (zC s) r hr) (5 * r) 5 (fun _ S => seenB S goal) 128 0 (bGo st) = runC s r hr goal := by unfold runC; rw [hst]
  rw [hrun] at A4 I4
  generalize runC s r hr goal = Sf at A4 I4 K0 K1
  have sg := A4.seen I4 hg
  have S4 := A4.C.S
  have b5 := rd_bd g4 74 5
  obtain ⟨SS, G4, m0, p24, oq4, ql4, qd4, nw4, rN4, rS4, tt4, tb4, tl4, gl4, gg4, qq4, xb4, ro4⟩ := id A4.C
  have GG : Gr (sGi ac) (sGj qa) sGq h g4 := G4.mono (by unfold sWi sGi; simp) (by unfold sWj sGj; simp) (by unfold sWq sGq; simp) (by unfold sGq; decide)
  have p8 : aP g4 74 8 = some ac := (G4.dyn S.o74.2 (by unfold sWq; decide)).trans q4
  have acn : ac ∉ sWi := fun q => by unfold sWi at q; simp at q; omega
  have rac : rd g4 ac = rd h ac := G4.row q5.2 acn
  have lac : aL g4 ac = aL h ac := G4.len q5.2
  have la5 : aL g4 qa4 ≤ 128000 := ql4.2
  unfold wb_X6_leastAlone_136
  simp (disch := omega) only [CSh.o0 S4, CSh.o1 S4, CSh.o2 S4, CSh.o3 S4, CSh.o26 S4, CSh.o27 S4, CSh.o29 S4, CSh.o30 S4, CSh.o31 S4, CSh.o56 S4, CSh.o57 S4, CSh.o58 S4, CSh.o62 S4, CSh.o66 S4, CSh.o70 S4, CSh.o74 S4, CSh.o75 S4, CSh.o77 S4, CSh.o79 S4, CSh.o80 S4, CSh.o81 S4, CSh.o82 S4, CSh.o83 S4, CSh.o84 S4, CSh.o85 S4, CSh.o86 S4, CSh.o87 S4, CSh.o88 S4, CSh.o53 S4, CSh.o54 S4, CSh.o55 S4, CSh.o59 S4, CSh.o60 S4, CSh.o61 S4, CSh.o63 S4, CSh.o64 S4, CSh.o65 S4, CSh.o67 S4, CSh.o68 S4, CSh.o69 S4, CSh.o71 S4, CSh.o72 S4, CSh.o73 S4, CSh.o89 S4, CSh.o90 S4, CSh.o91 S4, CSh.l1 S4, CSh.l3 S4, CSh.l27 S4, CSh.l29 S4, CSh.l30 S4, CSh.l56 S4, CSh.l57 S4, CSh.l58 S4, CSh.l75 S4, CSh.l77 S4, CSh.l79 S4, CSh.l81 S4, CSh.l82 S4, CSh.l83 S4, CSh.l84 S4, CSh.l85 S4, CSh.l86 S4, CSh.l87 S4, CSh.l88 S4, CSh.l54 S4, CSh.l55 S4, CSh.l60 S4, CSh.l61 S4, CSh.l64 S4, CSh.l65 S4, CSh.l68 S4, CSh.l69 S4, CSh.l72 S4, CSh.l73 S4, CSh.l90 S4, CSh.l91 S4, CSh.p0_0 S4, CSh.p0_3 S4, CSh.p0_4 S4, CSh.p0_5 S4, CSh.p0_6 S4, CSh.p0_7 S4, CSh.p0_8 S4, CSh.p0_9 S4, CSh.p0_10 S4, CSh.p0_14 S4, CSh.p2_0 S4, CSh.p26_0 S4, CSh.p26_13 S4, CSh.p26_14 S4, CSh.p31_1 S4, CSh.p31_3 S4, CSh.p31_4 S4, CSh.p62_0 S4, CSh.p66_0 S4, CSh.p70_0 S4, CSh.p74_0 S4, CSh.p74_1 S4, CSh.p74_6 S4, CSh.p74_7 S4, CSh.p74_10 S4, CSh.p80_1 S4, CSh.p80_2 S4, CSh.p80_3 S4, CSh.p80_4 S4, CSh.p80_5 S4, CSh.p80_6 S4, CSh.p80_7 S4, CSh.p80_8 S4, CSh.p53_1 S4, CSh.p53_2 S4, CSh.p59_1 S4, CSh.p59_2 S4, CSh.p63_1 S4, CSh.p63_2 S4, CSh.p67_1 S4, CSh.p67_2 S4, CSh.p71_1 S4, CSh.p71_2 S4, CSh.p89_1 S4, CSh.p89_2 S4, fd0, fd1, fd2, fd3, fd4, fd5, fd6, fd7, fd8, fd9, fd10, fd11, fd12, fd13, fd14, fd15, fd16, fd17, fd18, fd19, fd20, fd21, fd22, fd23, fd24, fd25, fd26, fd27, fd28, fd29, fd30, fd31, fd32, fd33, fd34, fd35, fd36, fd37, fd38, fd39, fd40, fd41, fd42, fd43, fd44, fd45, fd46, fd47, fd48, fd49, fd50, fd51, fd52, sg, -Int.reduceToNat, -Int32.reduceToNatClampNeg, il0, il1, il2, il3, il4, il5, il6, il7, il8, il9, il10, il11, il12, il13, il14, il15, il16, il17, il18, il19, il20, il21, il22, il23, il24, il25, il26, il27, il28, il29, il30, il31, il32, il35, il36, il38, il40, il42, il43, il44, il45, il46, il47, il48, il49, il50, il51, il52, il57, il59, il60, il63, il64, il75, il80, il95, il96, il97, il98, il99, il100, il120, il122, il123, il127, il128, il135, il167, il175, il225, il249, il250, il255, il256, il360, il370, il384, il600, il700, il740, il900, il940, il1024, il1600, il4800, il64000, il125000, il262143, il1000000000, iI_toInt, iI_add, iI_sub, iI_mul, iI_neg, iI_lt, iI_le, iI_eq, iI_n, iI_in, iI_div, iI_mod, iI_shm, iI_and1, iI_and7, iI_and63, iI_shr3, iI_shr6, rd_I, ob, Option.some.injEq, exists_eq_left', exists_eq_left, true_and, and_true, fqI, fqJ, eq_self, true_or, or_true, bP_0, bP_0i, npP, bP_1i, bP_b, not_true_eq_false, not_false_eq_true, false_implies, true_implies, implies_true, Classical.not_not, and_self]
  refine ⟨fun sn => ?_, fun ns => ?_⟩
  · have g5 := sg.mpr sn
    rcases gg4 with ⟨w1, w2⟩ | ⟨w1, w2, w3⟩
    · omega
    generalize hpl : rd g4 74 5 = pl at *
    have ep : Sf.2.1 pl = goal := csA_inj (I4.2.1 pl w1 w2).1 hg w3
    refine c_trace A4.C.qv I4.fg ⟨w1, w2⟩ (by omega) p8 (G4.ob q5) (by rw [lac]; exact q6) q11 (by have := G4.2.1; omega) (by omega) fun g5 ac5 G5 n5 s5 p85 oa5 al5 an5 ad5 d5 r95 ro5 y5 => ?_
    have t128 := I4.le (M := 128) (fun v hv => hv.1)
    have db := dpt_bd I4.fg pl.toNat pl (by omega) w1 w2
    have l74 := SS.o74.2
    have acq : ac ≠ qa4 := fun e => by have a := (G4.ob q5).1; rw [e, oq4.1] at a; omega
    have G4' := G4.2.1
    refine K1 g5 qa4 ac5 pl w1 w2 ep ⟨GG.via G5 (fun a _ q => by unfold sGi; simp at q ⊢; omega) (fun _ _ q => absurd q List.not_mem_nil) (fun a k _ q => by unfold sGq; simp at q ⊢; omega), fun j hj => by rw [ro5 j (by omega)]; exact ro4 j (by omega), (G5.dyn l74 (by decide)).trans p24, G5.ob oq4, by rw [G5.len oq4.2]; exact ql4, qd4, nw4, p85, oa5, al5, ad5, by omega, by omega, by rw [G5.len oq4.2]; omega, Or.inr ⟨db.1, by omega, d5, r95, y5⟩⟩
  · exact K0 g4 qa4 ns ⟨GG, fun j hj => ro4 j (by omega), p24, oq4, ql4, qd4, nw4, p8, G4.ob q5, by rw [lac]; exact q6, q11, Or.inl rfl, by omega, by rw [lac]; omega, Or.inl ⟨rfl, ro4 9 (by omega), rfl, rac⟩⟩
end ALC
