/-! IMAGE and RESTORE in both -/
section IMAGES
variable {h h1 h2 h' : AH} {i la fr qa ac sc : Nat} {K : AH → Prop} {postV : AH → Prop} {post : AH → Int32 → Prop} {a b c d r x y n k : Int} {s : Int → Int}
theorem Inv.kk (I : Inv h i la fr qa ac) : IvK h qa ac := I.2.2.2.2.2.2.2.2.2.2.2.2.2.2.2.1
theorem IvK.at (Q : IvK h qa ac) (hk : 0 ≤ k ∧ k ≤ 1) : IvK1 h qa ac k.toNat := by
  have : k = 0 ∨ k = 1 := by omega
  rcases this with rfl | rfl
  · exact Q.1
  · exact Q.2.1
theorem x_restore (I : Inv h i la fr qa ac) (p0 : -2147483648 ≤ k) (p0' : k < 2147483648) (hK : ∀ h2, RtI (i + 1) h2 → K h2) : wp_X11_restore h 0 (iI k) (fun h1 v1 => ob h1 92 11 ∧ wp_X12_restore h1 92 (iI k) (Ag K v1)) := by
  have S := I.s
  have hb : (0 ≤ k ∧ k ≤ 1) → rd h 117 k = 0 ∨ rd h 117 k = 1 := fun hk => by
    have := I.kk.at hk
    unfold IvK1 at this
    rw [show ((k.toNat : Nat) : Int) = k by omega] at this
    rcases this with ⟨-, q⟩ | ⟨sc, -, q, -⟩
    · exact Or.inl q
    · exact Or.inr q
  have no : ¬ ((0 ≤ k ∧ k ≤ 1) ∧ rd h 117 k = 1) → ob h 92 11 ∧ wp_X12_restore h 92 (iI k) (Ag K (iI 0)) := fun q => ⟨I.m.o0, mX_restore I.m I.z p0 p0' hb (fun h2 c => absurd c q) (fun h2 _ q2 => Ag.same (hK _ (I.qt q2 (Nat.le_succ _)).rt))⟩
  unfold wp_X11_restore
  simp (disch := omega) only [CSh.o0 S, CSh.o1 S, CSh.o2 S, CSh.o3 S, CSh.o26 S, CSh.o27 S, CSh.o29 S, CSh.o30 S, CSh.o31 S, CSh.o56 S, CSh.o57 S, CSh.o58 S, CSh.o62 S, CSh.o66 S, CSh.o70 S, CSh.o74 S, CSh.o75 S, CSh.o77 S, CSh.o79 S, CSh.o80 S, CSh.o81 S, CSh.o82 S, CSh.o83 S, CSh.o84 S, CSh.o85 S, CSh.o86 S, CSh.o87 S, CSh.o88 S, CSh.o53 S, CSh.o54 S, CSh.o55 S, CSh.o59 S, CSh.o60 S, CSh.o61 S, CSh.o63 S, CSh.o64 S, CSh.o65 S, CSh.o67 S, CSh.o68 S, CSh.o69 S, CSh.o71 S, CSh.o72 S, CSh.o73 S, CSh.o89 S, CSh.o90 S, CSh.o91 S, CSh.l1 S, CSh.l3 S, CSh.l27 S, CSh.l29 S, CSh.l30 S, CSh.l56 S, CSh.l57 S, CSh.l58 S, CSh.l75 S, CSh.l77 S, CSh.l79 S, CSh.l81 S, CSh.l82 S, CSh.l83 S, CSh.l84 S, CSh.l85 S, CSh.l86 S, CSh.l87 S, CSh.l88 S, CSh.l54 S, CSh.l55 S, CSh.l60 S, CSh.l61 S, CSh.l64 S, CSh.l65 S, CSh.l68 S, CSh.l69 S, CSh.l72 S, CSh.l73 S, CSh.l90 S, CSh.l91 S, CSh.p0_0 S, CSh.p0_3 S, CSh.p0_4 S, CSh.p0_5 S, CSh.p0_6 S, CSh.p0_7 S, CSh.p0_8 S, CSh.p0_9 S, CSh.p0_10 S, CSh.p0_14 S, CSh.p2_0 S, CSh.p26_0 S, CSh.p26_13 S, CSh.p26_14 S, CSh.p31_1 S, CSh.p31_3 S, CSh.p31_4 S, CSh.p62_0 S, CSh.p66_0 S, CSh.p70_0 S, CSh.p74_0 S, CSh.p74_1 S, CSh.p74_6 S, CSh.p74_7 S, CSh.p74_10 S, CSh.p80_1 S, CSh.p80_2 S, CSh.p80_3 S, CSh.p80_4 S, CSh.p80_5 S, CSh.p80_6 S, CSh.p80_7 S, CSh.p80_8 S, CSh.p53_1 S, CSh.p53_2 S, CSh.p59_1 S, CSh.p59_2 S, CSh.p63_1 S, CSh.p63_2 S, CSh.p67_1 S, CSh.p67_2 S, CSh.p71_1 S, CSh.p71_2 S, CSh.p89_1 S, CSh.p89_2 S, -Int.reduceToNat, -Int32.reduceToNatClampNeg, il0, il1, il2, il3, il4, il5, il6, il7, il8, il9, il10, il11, il12, il13, il14, il15, il16, il17, il18, il19, il20, il21, il22, il23, il24, il25, il26, il27, il28, il29, il30, il31, il32, il35, il36, il38, il40, il42, il43, il44, il45, il46, il47, il48, il49, il50, il51, il52, il57, il59, il60, il63, il64, il75, il80, il95, il96, il97, il98, il99, il100, il120, il122, il123, il127, il128, il135, il167, il175, il225, il249, il250, il255, il256, il360, il370, il384, il600, il700, il740, il900, il940, il1024, il1600, il4800, il64000, il125000, il262143, il1000000000, iI_toInt, iI_add, iI_sub, iI_mul, iI_neg, iI_lt, iI_le, iI_eq, iI_n, iI_in, iI_div, iI_mod, iI_shm, iI_and1, iI_and7, iI_and63, iI_shr3, iI_shr6, rd_I, ob, Option.some.injEq, exists_eq_left', exists_eq_left, true_and, and_true, fqI, fqJ, eq_self, true_or, or_true, bP_0, bP_0i, npP, bP_1i, bP_b, not_true_eq_false, not_false_eq_true, false_implies, true_implies, implies_true, Classical.not_not, and_self, cP, cP', ite_n]
  by_cases c1 : k < 0
  · rw [ite_t c1]; exact no (fun q => by omega)
  rw [ite_f c1]
  by_cases c2 : 2 ≤ k
  · rw [ite_t c2]; exact no (fun q => by omega)
  rw [ite_f c2]
  simp (disch := omega) only [CSh.o0 S, CSh.o1 S, CSh.o2 S, CSh.o3 S, CSh.o26 S, CSh.o27 S, CSh.o29 S, CSh.o30 S, CSh.o31 S, CSh.o56 S, CSh.o57 S, CSh.o58 S, CSh.o62 S, CSh.o66 S, CSh.o70 S, CSh.o74 S, CSh.o75 S, CSh.o77 S, CSh.o79 S, CSh.o80 S, CSh.o81 S, CSh.o82 S, CSh.o83 S, CSh.o84 S, CSh.o85 S, CSh.o86 S, CSh.o87 S, CSh.o88 S, CSh.o53 S, CSh.o54 S, CSh.o55 S, CSh.o59 S, CSh.o60 S, CSh.o61 S, CSh.o63 S, CSh.o64 S, CSh.o65 S, CSh.o67 S, CSh.o68 S, CSh.o69 S, CSh.o71 S, CSh.o72 S, CSh.o73 S, CSh.o89 S, CSh.o90 S, CSh.o91 S, CSh.l1 S, CSh.l3 S, CSh.l27 S, CSh.l29 S, CSh.l30 S, CSh.l56 S, CSh.l57 S, CSh.l58 S, CSh.l75 S, CSh.l77 S, CSh.l79 S, CSh.l81 S, CSh.l82 S, CSh.l83 S, CSh.l84 S, CSh.l85 S, CSh.l86 S, CSh.l87 S, CSh.l88 S, CSh.l54 S, CSh.l55 S, CSh.l60 S, CSh.l61 S, CSh.l64 S, CSh.l65 S, CSh.l68 S, CSh.l69 S, CSh.l72 S, CSh.l73 S, CSh.l90 S, CSh.l91 S, CSh.p0_0 S, CSh.p0_3 S, CSh.p0_4 S, CSh.p0_5 S, CSh.p0_6 S, CSh.p0_7 S, CSh.p0_8 S, CSh.p0_9 S, CSh.p0_10 S, CSh.p0_14 S, CSh.p2_0 S, CSh.p26_0 S, CSh.p26_13 S, CSh.p26_14 S, CSh.p31_1 S, CSh.p31_3 S, CSh.p31_4 S, CSh.p62_0 S, CSh.p66_0 S, CSh.p70_0 S, CSh.p74_0 S, CSh.p74_1 S, CSh.p74_6 S, CSh.p74_7 S, CSh.p74_10 S, CSh.p80_1 S, CSh.p80_2 S, CSh.p80_3 S, CSh.p80_4 S, CSh.p80_5 S, CSh.p80_6 S, CSh.p80_7 S, CSh.p80_8 S, CSh.p53_1 S, CSh.p53_2 S, CSh.p59_1 S, CSh.p59_2 S, CSh.p63_1 S, CSh.p63_2 S, CSh.p67_1 S, CSh.p67_2 S, CSh.p71_1 S, CSh.p71_2 S, CSh.p89_1 S, CSh.p89_2 S, -Int.reduceToNat, -Int32.reduceToNatClampNeg, il0, il1, il2, il3, il4, il5, il6, il7, il8, il9, il10, il11, il12, il13, il14, il15, il16, il17, il18, il19, il20, il21, il22, il23, il24, il25, il26, il27, il28, il29, il30, il31, il32, il35, il36, il38, il40, il42, il43, il44, il45, il46, il47, il48, il49, il50, il51, il52, il57, il59, il60, il63, il64, il75, il80, il95, il96, il97, il98, il99, il100, il120, il122, il123, il127, il128, il135, il167, il175, il225, il249, il250, il255, il256, il360, il370, il384, il600, il700, il740, il900, il940, il1024, il1600, il4800, il64000, il125000, il262143, il1000000000, iI_toInt, iI_add, iI_sub, iI_mul, iI_neg, iI_lt, iI_le, iI_eq, iI_n, iI_in, iI_div, iI_mod, iI_shm, iI_and1, iI_and7, iI_and63, iI_shr3, iI_shr6, rd_I, ob, Option.some.injEq, exists_eq_left', exists_eq_left, true_and, and_true, fqI, fqJ, eq_self, true_or, or_true, bP_0, bP_0i, npP, bP_1i, bP_b, not_true_eq_false, not_false_eq_true, false_implies, true_implies, implies_true, Classical.not_not, and_self]
  have hk : 0 ≤ k ∧ k ≤ 1 := by omega
  have kv := I.kk.at hk
  unfold IvK1 at kv
  rw [show ((k.toNat : Nat) : Int) = k by omega] at kv
  rcases kv with ⟨pn, q0⟩ | ⟨sc, ps, q1, hsc, Sk, Gk, dq, da⟩
  · rw [pn]
    refine ⟨fun _ => no (fun q => by omega), fun rv e => absurd e (by simp)⟩
  rw [ps]
  refine ⟨fun e => absurd e (by simp), fun rv e => ?_⟩
  have hl := I.hl
  have hla : la = 5 ∨ la = 32 := by omega
  refine ⟨sc, rfl, ?_⟩
  have hG := I.ga
  refine c_copyScene (Or.inl ⟨rfl, hla, hsc, rfl⟩) I.scn.1 I.scn.2.1 Sk Gk fun g1 f1 pj pz r31 L1 N1 T1 P1 => ?_
  have lt := fun (a : Nat) (ha : a ≤ 118) => I.lt ha
  have g1e : Gr (cpW 31 la) [la, la + 2, 55] [(53, 0)] h g1 := f1.gr1 (by decide) pj
  have M1 := I.m.gr g1e
  have dm : ∀ a, 58 ≤ a → a ∉ cpW 31 la := fun a ha q => by
    unfold cpW at q
    simp at q
    omega
  have e117 : rd g1 117 = rd h 117 := f1.row (dm _ (by omega))
  have z1 : Z24 g1 := by
    have z := I.z
    unfold Z24 at z ⊢
    rw [f1.row (dm _ (by omega)), f1.row (dm _ (by omega))]
    exact z
  refine ⟨M1.o0, mX_restore M1 z1 p0 p0' (by rw [e117]; exact hb) (fun h2 _ f2 m2 u1 u2 => ?_) (fun h2 c => absurd ⟨hk, by rw [e117]; exact q1⟩ c)⟩
  refine Ag.same (hK _ ?_)
  have j116 : aJ g1 116 = aJ h 116 := f1.2.2.2.2.2.1 116 (by simp; omega)
  rw [f1.row (dm _ (by omega))] at u1
  rw [j116] at u2
  have es : ∀ j, 0 ≤ j → j < 370 → rd h2 94 j = kS h k.toNat j := fun j j1 j2 => by
    rw [u1 j j1 j2]
    unfold kS
    rw [show ((k.toNat : Nat) : Int) = k by omega]
  have en : ∀ j : Nat, j < 8 → aJ h2 97 j = kN h k.toNat j := fun j hj => by
    rw [u2 j hj]
    rfl
  have G : Gr (cpW 31 la ++ [92, 94]) [la, la + 2, 55, 97] [(53, 0)] h h2 := (g1e.mono (fun a q => List.mem_append_left _ q) (fun a q => by simp at q ⊢; omega) (fun a q => q) (by simp [DynP])).trans (f2.gr.mono (fun a q => List.mem_append_right _ q) (fun a q => by simp at q ⊢; omega) (by simp) (by simp [DynP]))
  have I0 := I
  obtain ⟨c1, c2, c3, c4, c5, c6, c7, c8, c9, c10, c11, c12, c13, c14, c15, c16, c17, c18⟩ := I
  have dn : ∀ a, (58 ≤ a ∧ a ≠ 92 ∧ a ≠ 94) ∨ a < 4 ∨ a = 27 → a ∉ cpW 31 la ++ [92, 94] := fun a ha q => by
    unfold cpW at q
    simp at q
    omega
  have rr : ∀ a, a ≤ 118 → (58 ≤ a ∧ a ≠ 92 ∧ a ≠ 94) ∨ a < 4 ∨ a = 27 → rd h2 a = rd h a := fun a ha hb => G.row (lt a ha) (dn a hb)
  have mq : ∀ j, j ∈ QW → rd h2 92 j = rd h 92 j := fun j hj => by rw [m2 j hj, f1.row (dm _ (by omega))]
  have scn : Scn h2 31 la (rd h2 94) (aJ h2 97) := by
    have S1 : Scn g1 31 la (kS h k.toNat) (kN h k.toNat) := by
      obtain ⟨o0, p0, p1, tb, p3, o25, l25, p4, o26, l26⟩ := c8.1
      exact ⟨⟨g1e.ob o0, (g1e.dyn o0.2 (by decide)).trans p0, (g1e.ptr o0.2 (by decide)).trans p1, T1.1, (g1e.ptr o0.2 (by decide)).trans p3, g1e.ob o25, (g1e.len o25.2).trans l25, (g1e.ptr o0.2 (by decide)).trans p4, g1e.ob o26, (g1e.len o26.2).trans l26⟩, c8.2.1.gr g1e (by omega), L1, N1, T1, P1⟩
    exact (S1.gr f2.gr (by omega) (Or.inl rfl) List.not_mem_nil List.not_mem_nil (fun j hj => by simp; omega) (fun j hj => by simp; omega) (by decide) (by decide) (by decide) (by decide) (by decide)).cg Gk es en
  refine ⟨la, fr, qa, ac, I0.step G hl ((G.dyn (lt 2 (by omega)) (by decide)).trans c6) scn (Gk.cg es) ?_ (c11.gr ?_ (mq _ (by decide)) ?_ ?_) (c12.gr ?_ (mq _ (by decide))) (c13.gr ?_ ?_ ?_ (mq _ (by decide)) ?_ ?_ ?_ ?_) (c14.gr G c1 (by decide) (by decide) ?_ (mq _ (by decide)) ?_ ?_) (c15.gr (mq _ (by decide)) (mq _ (by decide)) ?_ ?_ ?_ ?_) (c16.gr G c1 (by decide) (by decide) ?_ ?_ ?_ ?_ ⟨Or.inl rfl, Or.inl rfl⟩) (c17.gr ?_ ?_ ?_) (c18.same c14 G (by rw [f2.1, f1.1]) (by rw [f2.2.1, f1.2.1]))⟩
  · unfold Z24 at c10 ⊢
    rw [rr 99 (by omega) (by omega), rr 100 (by omega) (by omega)]
    exact c10
  all_goals first | (rw [rr _ (by decide) (by decide)]; done) | exact rr _ (by decide) (by decide) | exact G.jow (lt _ (by decide)) (by simp; omega) | skip
  · have qd := c14.2.2.2.2.2.2.2.2.2
    exact dn _ (by omega)
  · refine ⟨fun a ha => ?_, fun a ha => ?_⟩
    · unfold cpW at ha; simp at ha; omega
    · simp at ha; omega
/-- an image that lies elsewhere stays -/
theorem IvK1.gr2 {wi wj : List Nat} {wq : List (Nat × Nat)} {k : Nat} (I : IvK1 h qa ac k) (f : Gr wi wj wq h h') (S : CSh h) (hk : (58, k) ∉ wq) (e1 : ∀ x, 0 ≤ x → x < 370 → kS h' k x = kS h k x) (e2 : ∀ x, x < 8 → kN h' k x = kN h k x) (e3 : rd h' 117 k = rd h 117 k) (kf : ∀ a, a ∈ wi ∨ a ∈ wj → a < 119 ∨ (sc ≤ a ∧ a ≤ sc + 26)) (hd : ∀ so, aP h 58 k = some so → so + 26 < sc ∨ sc + 26 < so) : IvK1 h' qa ac k := by
  have l58 : 58 < aN h := (CSh.o58 S).2
  unfold IvK1
  rw [e3, f.dyn l58 hk]
  rcases I with I | ⟨so, p, q1, q2, q3, q4, q5, q6⟩
  · exact Or.inl I
  · have hd := hd so p
    have hin : ∀ j, j ≤ 26 → so + j ∉ wi := fun j hj q => by have := kf _ (Or.inl q); omega
    have hjn : ∀ j, j ≤ 26 → so + j ∉ wj := fun j hj q => by have := kf _ (Or.inr q); omega
    have dn : ∀ j k, (so + j, k) ∉ wq := fun j k q => dyn_no (a := so + j) (k := k) (by omega) (f.1 _ q)
    refine Or.inr ⟨so, p, q1, q2, (q3.gr f (by omega) (by omega) (dn 0 0) (dn 22 0) (fun j hj => ?_) (fun j hj => ?_) (hin 0 (by omega)) (hin 23 (by omega)) (hjn 24 (by omega)) (hin 25 (by omega)) (hin 26 (by omega))).cg q4 e1 e2, q4.cg e1, q5, q6⟩
    · rw [Nat.add_assoc]; exact hin (1 + j) (by omega)
    · rw [Nat.add_assoc]; exact hjn (1 + j) (by omega)
/-- the scene kept anew: from a heap that has its cells -/
theorem x_image33 (I : Inv h i la fr qa ac) (hk : 0 ≤ k ∧ k ≤ 1) (hK : ∀ h2, RtI (i + 1) h2 → K h2) {g : AH} (G0 : Gr [] [] [(58, k.toNat)] h g) (ps : aP g 58 k.toNat = some sc) (hsc : 119 ≤ sc) (K1 : SK g sc (sc + 1)) (H1 : LB g (sc + 1)) (pz : aP g (sc + 22) 0 = some (sc + 1)) (rm : aN g ≤ aN h + 27 ∧ aS g ≤ aS h + 1000) (dq : qa < sc ∨ sc + 26 < qa) (da : ac < sc ∨ sc + 26 < ac) (ho : ∀ j so, (j = 0 ∨ j = 1) → j ≠ k.toNat → aP h 58 j = some so → so + 26 < sc ∨ sc + 26 < so) :
    wb_X11_image_33 g 0 (iI k) (fun h1 v1 => ob h1 92 11 ∧ wp_X12_image h1 92 (iI k) (Ag K v1)) := by
  have lt := fun (a : Nat) (ha : a ≤ 118) => I.lt ha
  have hG := I.ga
  have S := I.s.gr G0
  have hl := I.hl
  have hla : la = 5 ∨ la = 32 := by omega
  have g94 : rd g 94 = rd h 94 := G0.row (lt 94 (by omega)) List.not_mem_nil
  have kn : k.toNat = 0 ∨ k.toNat = 1 := by omega
  have d53 : ∀ j : Nat, (j, 0) ∉ [((58 : Nat), k.toNat)] ∨ j = 58 := fun j => by
    by_cases c : j = 58
    · exact Or.inr c
    · exact Or.inl (by simp [c])
  have Sg : Scn g 31 la (rd h 94) (aJ h 97) := I.scn.gr G0 (by omega) (Or.inl rfl) (by simp) (by simp) (fun j _ => List.not_mem_nil) (fun j _ => List.not_mem_nil) List.not_mem_nil List.not_mem_nil List.not_mem_nil List.not_mem_nil List.not_mem_nil
  unfold wb_X11_image_33
  simp (disch := omega) only [CSh.o0 S, CSh.o1 S, CSh.o2 S, CSh.o3 S, CSh.o26 S, CSh.o27 S, CSh.o29 S, CSh.o30 S, CSh.o31 S, CSh.o56 S, CSh.o57 S, CSh.o58 S, CSh.o62 S, CSh.o66 S, CSh.o70 S, CSh.o74 S, CSh.o75 S, CSh.o77 S, CSh.o79 S, CSh.o80 S, CSh.o81 S, CSh.o82 S, CSh.o83 S, CSh.o84 S, CSh.o85 S, CSh.o86 S, CSh.o87 S, CSh.o88 S, CSh.o53 S, CSh.o54 S, CSh.o55 S, CSh.o59 S, CSh.o60 S, CSh.o61 S, CSh.o63 S, CSh.o64 S, CSh.o65 S, CSh.o67 S, CSh.o68 S, CSh.o69 S, CSh.o71 S, CSh.o72 S, CSh.o73 S, CSh.o89 S, CSh.o90 S, CSh.o91 S, CSh.l1 S, CSh.l3 S, CSh.l27 S, CSh.l29 S, CSh.l30 S, CSh.l56 S, CSh.l57 S, CSh.l58 S, CSh.l75 S, CSh.l77 S, CSh.l79 S, CSh.l81 S, CSh.l82 S, CSh.l83 S, CSh.l84 S, CSh.l85 S, CSh.l86 S, CSh.l87 S, CSh.l88 S, CSh.l54 S, CSh.l55 S, CSh.l60 S, CSh.l61 S, CSh.l64 S, CSh.l65 S, CSh.l68 S, CSh.l69 S, CSh.l72 S, CSh.l73 S, CSh.l90 S, CSh.l91 S, CSh.p0_0 S, CSh.p0_3 S, CSh.p0_4 S, CSh.p0_5 S, CSh.p0_6 S, CSh.p0_7 S, CSh.p0_8 S, CSh.p0_9 S, CSh.p0_10 S, CSh.p0_14 S, CSh.p2_0 S, CSh.p26_0 S, CSh.p26_13 S, CSh.p26_14 S, CSh.p31_1 S, CSh.p31_3 S, CSh.p31_4 S, CSh.p62_0 S, CSh.p66_0 S, CSh.p70_0 S, CSh.p74_0 S, CSh.p74_1 S, CSh.p74_6 S, CSh.p74_7 S, CSh.p74_10 S, CSh.p80_1 S, CSh.p80_2 S, CSh.p80_3 S, CSh.p80_4 S, CSh.p80_5 S, CSh.p80_6 S, CSh.p80_7 S, CSh.p80_8 S, CSh.p53_1 S, CSh.p53_2 S, CSh.p59_1 S, CSh.p59_2 S, CSh.p63_1 S, CSh.p63_2 S, CSh.p67_1 S, CSh.p67_2 S, CSh.p71_1 S, CSh.p71_2 S, CSh.p89_1 S, CSh.p89_2 S, ps, -Int.reduceToNat, -Int32.reduceToNatClampNeg, il0, il1, il2, il3, il4, il5, il6, il7, il8, il9, il10, il11, il12, il13, il14, il15, il16, il17, il18, il19, il20, il21, il22, il23, il24, il25, il26, il27, il28, il29, il30, il31, il32, il35, il36, il38, il40, il42, il43, il44, il45, il46, il47, il48, il49, il50, il51, il52, il57, il59, il60, il63, il64, il75, il80, il95, il96, il97, il98, il99, il100, il120, il122, il123, il127, il128, il135, il167, il175, il225, il249, il250, il255, il256, il360, il370, il384, il600, il700, il740, il900, il940, il1024, il1600, il4800, il64000, il125000, il262143, il1000000000, iI_toInt, iI_add, iI_sub, iI_mul, iI_neg, iI_lt, iI_le, iI_eq, iI_n, iI_in, iI_div, iI_mod, iI_shm, iI_and1, iI_and7, iI_and63, iI_shr3, iI_shr6, rd_I, ob, Option.some.injEq, exists_eq_left', exists_eq_left, true_and, and_true, fqI, fqJ, eq_self, true_or, or_true, bP_0, bP_0i, npP, bP_1i, bP_b, not_true_eq_false, not_false_eq_true, false_implies, true_implies, implies_true, Classical.not_not, and_self]
  refine ⟨K1.1, c_copyScene (Or.inr ⟨hsc, rfl, rfl, hla⟩) K1 H1 Sg hG fun g1 f1 pj pz1 rsc L1 N1 T1 P1 => ?_⟩
  have ePn : ∀ a j, aP g1 a j = aP g a j := fun a j => by
    by_cases c : a = sc + 22
    · subst c
      by_cases cj : j = 0
      · subst cj; rw [pz1, pz]
      · exact pj j cj
    · exact congrFun (f1.2.2.2.2.2.2 a (by simpa using c)) j
  have G1 : Gr (cpW sc (sc + 1)) [sc + 1, sc + 1 + 2, sc + 24] [] g g1 := ⟨fun _ q => absurd q List.not_mem_nil, Nat.le_of_eq f1.1.symm, fun a _ => ⟨congrFun f1.2.2.1 a, congrFun f1.2.2.2.1 a⟩, fun a _ q => f1.2.2.2.2.1 a q, fun a _ q => f1.2.2.2.2.2.1 a q, fun a k _ _ => ePn a k⟩
  have M1 := (I.m.gr G0).gr G1
  have dw : ∀ a, a < 119 → a ∉ cpW sc (sc + 1) := fun a ha q => by
    unfold cpW at q
    simp at q
    omega
  have r1 : ∀ a, a < 119 → rd g1 a = rd h a := fun a ha => by rw [f1.row (dw a ha), G0.row (lt a (by omega)) List.not_mem_nil]
  have z1 : Z24 g1 := by
    have z := I.z
    unfold Z24 at z ⊢
    rw [r1 99 (by omega), r1 100 (by omega)]
    exact z
  refine ⟨M1.o0, mX_image M1 z1 (by omega) (by omega) (fun h2 _ f2 m2 u1 u2 u3 u4 u5 => ?_) (fun h2 c => absurd hk c)⟩
  rw [r1 94 (by omega)] at u1
  rw [r1 115 (by omega)] at u2
  rw [r1 117 (by omega)] at u5
  have j1 : ∀ a, a < 119 → aJ g1 a = aJ h a := fun a ha => by rw [f1.2.2.2.2.2.1 a (by simp; omega), G0.jow (lt a (by omega)) List.not_mem_nil]
  rw [j1 97 (by omega)] at u3
  rw [j1 116 (by omega)] at u4
  refine Ag.same (hK _ ?_)
  have dy : (58, k.toNat) ∈ DynP := by rcases kn with e | e <;> (rw [e]; decide)
  have G : Gr (cpW sc (sc + 1) ++ [92, 115, 117]) [sc + 1, sc + 1 + 2, sc + 24, 116] [(58, k.toNat)] h h2 := (G0.mono (by simp) (by simp) (fun a q => q) (fun p q => by rw [List.mem_singleton.mp q]; exact dy)).trans ((G1.mono (fun a q => List.mem_append_left _ q) (fun a q => by simp at q ⊢; omega) (by simp) (fun p q => by rw [List.mem_singleton.mp q]; exact dy)).trans (f2.gr.mono (fun a q => List.mem_append_right _ q) (fun a q => by simp at q ⊢; omega) (by simp) (fun p q => by rw [List.mem_singleton.mp q]; exact dy)))
  have I0 := I
  obtain ⟨c1, c2, c3, c4, c5, c6, c7, c8, c9, c10, c11, c12, c13, c14, c15, c16, c17, c18⟩ := I
  have dn : ∀ a, a < 119 → a ≠ 92 → a ≠ 115 → a ≠ 117 → a ∉ cpW sc (sc + 1) ++ [92, 115, 117] := fun a h1 h2 h3 h4 q => by
    rcases List.mem_append.mp q with q | q
    · exact dw a h1 q
    · simp at q; omega
  have djn : ∀ a, a < 119 → a ≠ 116 → a ∉ [sc + 1, sc + 1 + 2, sc + 24, 116] := fun a h1 h2 => by simp; omega
  have rr : ∀ a, a < 119 → a ≠ 92 → a ≠ 115 → a ≠ 117 → rd h2 a = rd h a := fun a h1 h2 h3 h4 => G.row (lt a (by omega)) (dn a h1 h2 h3 h4)
  have jj : ∀ a, a < 119 → a ≠ 116 → aJ h2 a = aJ h a := fun a h1 h2 => G.jow (lt a (by omega)) (djn a h1 h2)
  have mq : ∀ j, j ∈ QW → rd h2 92 j = rd h 92 j := fun j hj => by rw [m2 j hj, r1 92 (by omega)]
  have lq : aL h2 qa = aL h qa := G.len c14.2.1.2
  have la' : aL h2 ac = aL h ac := G.len c14.2.2.2.2.1.2
  have l58 := lt 58 (by omega)
  have p58 : aP h2 58 k.toNat = some sc := by rw [f2.2.2.2.2.2.2 58 List.not_mem_nil, ePn, ps]
  have kS1 : ∀ j, 0 ≤ j → j < 370 → kS h2 k.toNat j = rd h 94 j := fun j a1 a2 => by
    unfold kS
    rw [show ((k.toNat : Nat) : Int) = k by omega]
    exact u1 j a1 a2
  have kN1 : ∀ j : Nat, j < 8 → kN h2 k.toNat j = aJ h 97 j := fun j hj => u3 j hj
  have scK : Scn h2 sc (sc + 1) (kS h2 k.toNat) (kN h2 k.toNat) := by
    have S1 : Scn g1 sc (sc + 1) (rd h 94) (aJ h 97) := by
      obtain ⟨o0, p0, p1, tb, p3, o25, l25, p4, o26, l26⟩ := K1
      have dd : ∀ k, (sc, k) ∉ DynP := fun k => dyn_no (by omega)
      exact ⟨⟨G1.ob o0, (G1.ptr o0.2 (dd _)).trans p0, (G1.ptr o0.2 (dd _)).trans p1, T1.1, (G1.ptr o0.2 (dd _)).trans p3, G1.ob o25, (G1.len o25.2).trans l25, (G1.ptr o0.2 (dd _)).trans p4, G1.ob o26, (G1.len o26.2).trans l26⟩, H1.gr G1 (by omega), L1, N1, T1, P1⟩
    exact (S1.gr f2.gr (by omega) (by omega) List.not_mem_nil List.not_mem_nil (fun j hj => by simp; omega) (fun j hj => by simp; omega) (by simp; omega) (by simp; omega) (by simp; omega) (by simp; omega) (by simp; omega)).cg c9 kS1 kN1
  have ik : IvK1 h2 qa ac k.toNat := by
    refine Or.inr ⟨sc, p58, ?_, hsc, scK, c9.cg kS1, dq, da⟩
    rw [u5, show ((k.toNat : Nat) : Int) = k by omega, updT_s]
  have oth : ∀ j, (j = 0 ∨ j = 1) → j ≠ k.toNat → IvK1 h qa ac j → IvK1 h2 qa ac j := fun j hj hne Q => by
    refine Q.gr2 (sc := sc) G c1 (fun q => hne (by have := List.mem_singleton.mp q; exact (Prod.mk.inj this).2)) ?_ ?_ ?_ (fun a ha => ?_) (fun so p => ho j so hj hne p)
    · intro x x1 x2
      unfold kS
      exact u2 _ (by omega)
    · intro x hx
      unfold kN
      exact u4 _ (by omega)
    · rw [u5, updT_n (by omega)]
    · rcases ha with ha | ha
      · rcases List.mem_append.mp ha with q | q
        · unfold cpW at q; simp at q; omega
        · simp at q; omega
      · simp at ha; omega
  have iK : IvK h2 qa ac := by
    refine ⟨?_, ?_, fun s1 s2 p1 p2 => ?_⟩
    · by_cases e : k.toNat = 0
      · rw [e] at ik; exact ik
      · exact oth 0 (Or.inl rfl) (fun q => e q.symm) c16.1
    · by_cases e : k.toNat = 1
      · rw [e] at ik; exact ik
      · exact oth 1 (Or.inr rfl) (fun q => e q.symm) c16.2.1
    · by_cases e : k.toNat = 0
      · rw [e] at p58
        rw [p58] at p1
        cases p1
        have p2' : aP h 58 1 = some s2 := by rw [← p2]; exact (G.dyn l58 (by rw [e]; simp)).symm
        have := ho 1 s2 (Or.inr rfl) (by omega) p2'
        omega
      · have e1 : k.toNat = 1 := by omega
        rw [e1] at p58
        rw [p58] at p2
        cases p2
        have p1' : aP h 58 0 = some s1 := by rw [← p1]; exact (G.dyn l58 (by rw [e1]; simp)).symm
        have := ho 0 s1 (Or.inl rfl) (by omega) p1'
        omega
  have nd : ∀ a j : Nat, a ≠ 58 → (a, j) ∉ [((58 : Nat), k.toNat)] := fun a j ha => by simp [ha]
  have scn : Scn h2 31 la (rd h2 94) (aJ h2 97) := by
    rw [rr 94 (by omega) (by omega) (by omega) (by omega), jj 97 (by omega) (by omega)]
    exact c8.gr G (by omega) (Or.inl rfl) (nd _ _ (by omega)) (nd _ _ (by omega)) (fun j hj => dn _ (by omega) (by omega) (by omega) (by omega)) (fun j hj => djn _ (by omega) (by omega)) (dn _ (by omega) (by omega) (by omega) (by omega)) (dn _ (by omega) (by omega) (by omega) (by omega)) (djn _ (by omega) (by omega)) (dn _ (by omega) (by omega) (by omega) (by omega)) (dn _ (by omega) (by omega) (by omega) (by omega))
  have z2 : Z24 h2 := by
    unfold Z24 at c10 ⊢
    rw [rr 99 (by omega) (by omega) (by omega) (by omega), rr 100 (by omega) (by omega) (by omega) (by omega)]
    exact c10
  have iR : IvR h2 (i + 1) qa ac := by
    obtain ⟨x1, x2⟩ := c18
    refine ⟨?_, ?_⟩
    · rw [f2.1, f1.1]; omega
    · rw [f2.2.1, f1.2.1, lq, la']; omega
  refine ⟨la, fr, qa, ac, I0.step G hl ((G.dyn (lt 2 (by omega)) (nd _ _ (by omega))).trans c6) scn (by rw [rr 94 (by omega) (by omega) (by omega) (by omega)]; exact c9) z2 (c11.gr ?_ (mq _ (by decide)) ?_ ?_) (c12.gr ?_ (mq _ (by decide))) (c13.gr ?_ ?_ ?_ (mq _ (by decide)) ?_ ?_ ?_ ?_) (c14.gr G c1 (nd _ _ (by omega)) (nd _ _ (by omega)) ?_ (mq _ (by decide)) ?_ ?_) (c15.gr (mq _ (by decide)) (mq _ (by decide)) ?_ ?_ ?_ ?_) iK (c17.gr ?_ ?_ ?_) iR⟩
  all_goals first | (rw [rr _ (by decide) (by decide) (by decide) (by decide)]; done) | exact rr _ (by decide) (by decide) (by decide) (by decide) | exact jj _ (by decide) (by decide) | skip
  · have qd := c14.2.2.2.2.2.2.2.2.2
    intro q
    rcases List.mem_append.mp q with q | q
    · unfold cpW at q; simp at q; omega
    · simp at q; omega
theorem x_image (I : Inv h i la fr qa ac) (hi : i ≤ 512) (p0 : -2147483648 ≤ k) (p0' : k < 2147483648) (hK : ∀ h2, RtI (i + 1) h2 → K h2) : wp_X11_image h 0 (iI k) (fun h1 v1 => ob h1 92 11 ∧ wp_X12_image h1 92 (iI k) (Ag K v1)) := by
  have S := I.s
  have no : ¬ (0 ≤ k ∧ k ≤ 1) → ob h 92 11 ∧ wp_X12_image h 92 (iI k) (Ag K (iI 0)) := fun q => ⟨I.m.o0, mX_image I.m I.z p0 p0' (fun h2 c => absurd c q) (fun h2 _ q2 => Ag.same (hK _ (I.qt q2 (Nat.le_succ _)).rt))⟩
  obtain ⟨ro1, ro2⟩ := I.room hi
  unfold wp_X11_image
  simp (disch := omega) only [CSh.o0 S, CSh.o1 S, CSh.o2 S, CSh.o3 S, CSh.o26 S, CSh.o27 S, CSh.o29 S, CSh.o30 S, CSh.o31 S, CSh.o56 S, CSh.o57 S, CSh.o58 S, CSh.o62 S, CSh.o66 S, CSh.o70 S, CSh.o74 S, CSh.o75 S, CSh.o77 S, CSh.o79 S, CSh.o80 S, CSh.o81 S, CSh.o82 S, CSh.o83 S, CSh.o84 S, CSh.o85 S, CSh.o86 S, CSh.o87 S, CSh.o88 S, CSh.o53 S, CSh.o54 S, CSh.o55 S, CSh.o59 S, CSh.o60 S, CSh.o61 S, CSh.o63 S, CSh.o64 S, CSh.o65 S, CSh.o67 S, CSh.o68 S, CSh.o69 S, CSh.o71 S, CSh.o72 S, CSh.o73 S, CSh.o89 S, CSh.o90 S, CSh.o91 S, CSh.l1 S, CSh.l3 S, CSh.l27 S, CSh.l29 S, CSh.l30 S, CSh.l56 S, CSh.l57 S, CSh.l58 S, CSh.l75 S, CSh.l77 S, CSh.l79 S, CSh.l81 S, CSh.l82 S, CSh.l83 S, CSh.l84 S, CSh.l85 S, CSh.l86 S, CSh.l87 S, CSh.l88 S, CSh.l54 S, CSh.l55 S, CSh.l60 S, CSh.l61 S, CSh.l64 S, CSh.l65 S, CSh.l68 S, CSh.l69 S, CSh.l72 S, CSh.l73 S, CSh.l90 S, CSh.l91 S, CSh.p0_0 S, CSh.p0_3 S, CSh.p0_4 S, CSh.p0_5 S, CSh.p0_6 S, CSh.p0_7 S, CSh.p0_8 S, CSh.p0_9 S, CSh.p0_10 S, CSh.p0_14 S, CSh.p2_0 S, CSh.p26_0 S, CSh.p26_13 S, CSh.p26_14 S, CSh.p31_1 S, CSh.p31_3 S, CSh.p31_4 S, CSh.p62_0 S, CSh.p66_0 S, CSh.p70_0 S, CSh.p74_0 S, CSh.p74_1 S, CSh.p74_6 S, CSh.p74_7 S, CSh.p74_10 S, CSh.p80_1 S, CSh.p80_2 S, CSh.p80_3 S, CSh.p80_4 S, CSh.p80_5 S, CSh.p80_6 S, CSh.p80_7 S, CSh.p80_8 S, CSh.p53_1 S, CSh.p53_2 S, CSh.p59_1 S, CSh.p59_2 S, CSh.p63_1 S, CSh.p63_2 S, CSh.p67_1 S, CSh.p67_2 S, CSh.p71_1 S, CSh.p71_2 S, CSh.p89_1 S, CSh.p89_2 S, -Int.reduceToNat, -Int32.reduceToNatClampNeg, il0, il1, il2, il3, il4, il5, il6, il7, il8, il9, il10, il11, il12, il13, il14, il15, il16, il17, il18, il19, il20, il21, il22, il23, il24, il25, il26, il27, il28, il29, il30, il31, il32, il35, il36, il38, il40, il42, il43, il44, il45, il46, il47, il48, il49, il50, il51, il52, il57, il59, il60, il63, il64, il75, il80, il95, il96, il97, il98, il99, il100, il120, il122, il123, il127, il128, il135, il167, il175, il225, il249, il250, il255, il256, il360, il370, il384, il600, il700, il740, il900, il940, il1024, il1600, il4800, il64000, il125000, il262143, il1000000000, iI_toInt, iI_add, iI_sub, iI_mul, iI_neg, iI_lt, iI_le, iI_eq, iI_n, iI_in, iI_div, iI_mod, iI_shm, iI_and1, iI_and7, iI_and63, iI_shr3, iI_shr6, rd_I, ob, Option.some.injEq, exists_eq_left', exists_eq_left, true_and, and_true, fqI, fqJ, eq_self, true_or, or_true, bP_0, bP_0i, npP, bP_1i, bP_b, not_true_eq_false, not_false_eq_true, false_implies, true_implies, implies_true, Classical.not_not, and_self, cP, cP', ite_n]
  by_cases c1 : k < 0
  · rw [ite_t c1]; exact no (fun q => by omega)
  rw [ite_f c1]
  by_cases c2 : k < 2
  case neg => rw [ite_f c2]; exact no (fun q => by omega)
  rw [ite_t c2]
  simp (disch := omega) only [CSh.o0 S, CSh.o1 S, CSh.o2 S, CSh.o3 S, CSh.o26 S, CSh.o27 S, CSh.o29 S, CSh.o30 S, CSh.o31 S, CSh.o56 S, CSh.o57 S, CSh.o58 S, CSh.o62 S, CSh.o66 S, CSh.o70 S, CSh.o74 S, CSh.o75 S, CSh.o77 S, CSh.o79 S, CSh.o80 S, CSh.o81 S, CSh.o82 S, CSh.o83 S, CSh.o84 S, CSh.o85 S, CSh.o86 S, CSh.o87 S, CSh.o88 S, CSh.o53 S, CSh.o54 S, CSh.o55 S, CSh.o59 S, CSh.o60 S, CSh.o61 S, CSh.o63 S, CSh.o64 S, CSh.o65 S, CSh.o67 S, CSh.o68 S, CSh.o69 S, CSh.o71 S, CSh.o72 S, CSh.o73 S, CSh.o89 S, CSh.o90 S, CSh.o91 S, CSh.l1 S, CSh.l3 S, CSh.l27 S, CSh.l29 S, CSh.l30 S, CSh.l56 S, CSh.l57 S, CSh.l58 S, CSh.l75 S, CSh.l77 S, CSh.l79 S, CSh.l81 S, CSh.l82 S, CSh.l83 S, CSh.l84 S, CSh.l85 S, CSh.l86 S, CSh.l87 S, CSh.l88 S, CSh.l54 S, CSh.l55 S, CSh.l60 S, CSh.l61 S, CSh.l64 S, CSh.l65 S, CSh.l68 S, CSh.l69 S, CSh.l72 S, CSh.l73 S, CSh.l90 S, CSh.l91 S, CSh.p0_0 S, CSh.p0_3 S, CSh.p0_4 S, CSh.p0_5 S, CSh.p0_6 S, CSh.p0_7 S, CSh.p0_8 S, CSh.p0_9 S, CSh.p0_10 S, CSh.p0_14 S, CSh.p2_0 S, CSh.p26_0 S, CSh.p26_13 S, CSh.p26_14 S, CSh.p31_1 S, CSh.p31_3 S, CSh.p31_4 S, CSh.p62_0 S, CSh.p66_0 S, CSh.p70_0 S, CSh.p74_0 S, CSh.p74_1 S, CSh.p74_6 S, CSh.p74_7 S, CSh.p74_10 S, CSh.p80_1 S, CSh.p80_2 S, CSh.p80_3 S, CSh.p80_4 S, CSh.p80_5 S, CSh.p80_6 S, CSh.p80_7 S, CSh.p80_8 S, CSh.p53_1 S, CSh.p53_2 S, CSh.p59_1 S, CSh.p59_2 S, CSh.p63_1 S, CSh.p63_2 S, CSh.p67_1 S, CSh.p67_2 S, CSh.p71_1 S, CSh.p71_2 S, CSh.p89_1 S, CSh.p89_2 S, -Int.reduceToNat, -Int32.reduceToNatClampNeg, il0, il1, il2, il3, il4, il5, il6, il7, il8, il9, il10, il11, il12, il13, il14, il15, il16, il17, il18, il19, il20, il21, il22, il23, il24, il25, il26, il27, il28, il29, il30, il31, il32, il35, il36, il38, il40, il42, il43, il44, il45, il46, il47, il48, il49, il50, il51, il52, il57, il59, il60, il63, il64, il75, il80, il95, il96, il97, il98, il99, il100, il120, il122, il123, il127, il128, il135, il167, il175, il225, il249, il250, il255, il256, il360, il370, il384, il600, il700, il740, il900, il940, il1024, il1600, il4800, il64000, il125000, il262143, il1000000000, iI_toInt, iI_add, iI_sub, iI_mul, iI_neg, iI_lt, iI_le, iI_eq, iI_n, iI_in, iI_div, iI_mod, iI_shm, iI_and1, iI_and7, iI_and63, iI_shr3, iI_shr6, rd_I, ob, Option.some.injEq, exists_eq_left', exists_eq_left, true_and, and_true, fqI, fqJ, eq_self, true_or, or_true, bP_0, bP_0i, npP, bP_1i, bP_b, not_true_eq_false, not_false_eq_true, false_implies, true_implies, implies_true, Classical.not_not, and_self]
  have hk : 0 ≤ k ∧ k ≤ 1 := by omega
  have kn : k.toNat = 0 ∨ k.toNat = 1 := by omega
  have kv := I.kk.at hk
  have Q := I.q
  have IK := I.kk
  have l118 := I.lt (a := 118) (by omega)
  have othr : ∀ j so, (j = 0 ∨ j = 1) → aP h 58 j = some so → so + 26 < aN h := fun j so hj p => by
    have q : IvK1 h qa ac j := by rcases hj with rfl | rfl; exact IK.1; exact IK.2.1
    rcases q with ⟨q, -⟩ | ⟨s1, q, -, -, q3, -⟩
    · rw [q] at p; cases p
    · rw [q] at p; cases p
      exact q3.1.2.2.2.2.2.2.2.2.1.2
  rcases kv with ⟨pn, q0⟩ | ⟨sc, ps, q1, hsc, Sk, Gk, dq, da⟩
  · refine ⟨fun _ => ⟨by omega, fun h4 rv e4 er => ?_⟩, fun rv e => by rw [pn] at e; cases e⟩
    rw [er]
    have B1 : Bk h h4 (aN h) [(5, 5)] [] [] := e4 ▸ (Bk.nil h).new (by simp) (by simp)
    have N4 : aN h4 = aN h + 1 := by rw [e4]; rfl
    have S4 : aS h4 = aS h + 5 := by rw [e4]; rfl
    refine c_newScene B1 (by omega) (by omega) S4 fun h6 W => ?_
    obtain ⟨w1, w2, w3, w4, w5, w6⟩ := W
    have G6 : Gr [] [] [] h h6 := ⟨fun _ q => absurd q List.not_mem_nil, by omega, fun a ha => ⟨(w6 a ha).1, (w6 a ha).2.1⟩, fun a ha _ => (w6 a ha).2.2.1, fun a ha _ => (w6 a ha).2.2.2.1, fun a k ha _ => congrFun (w6 a ha).2.2.2.2 k⟩
    have S6 := S.gr G6
    have o6 := w3.1
    simp (disch := omega) only [CSh.o0 S6, CSh.o1 S6, CSh.o2 S6, CSh.o3 S6, CSh.o26 S6, CSh.o27 S6, CSh.o29 S6, CSh.o30 S6, CSh.o31 S6, CSh.o56 S6, CSh.o57 S6, CSh.o58 S6, CSh.o62 S6, CSh.o66 S6, CSh.o70 S6, CSh.o74 S6, CSh.o75 S6, CSh.o77 S6, CSh.o79 S6, CSh.o80 S6, CSh.o81 S6, CSh.o82 S6, CSh.o83 S6, CSh.o84 S6, CSh.o85 S6, CSh.o86 S6, CSh.o87 S6, CSh.o88 S6, CSh.o53 S6, CSh.o54 S6, CSh.o55 S6, CSh.o59 S6, CSh.o60 S6, CSh.o61 S6, CSh.o63 S6, CSh.o64 S6, CSh.o65 S6, CSh.o67 S6, CSh.o68 S6, CSh.o69 S6, CSh.o71 S6, CSh.o72 S6, CSh.o73 S6, CSh.o89 S6, CSh.o90 S6, CSh.o91 S6, CSh.l1 S6, CSh.l3 S6, CSh.l27 S6, CSh.l29 S6, CSh.l30 S6, CSh.l56 S6, CSh.l57 S6, CSh.l58 S6, CSh.l75 S6, CSh.l77 S6, CSh.l79 S6, CSh.l81 S6, CSh.l82 S6, CSh.l83 S6, CSh.l84 S6, CSh.l85 S6, CSh.l86 S6, CSh.l87 S6, CSh.l88 S6, CSh.l54 S6, CSh.l55 S6, CSh.l60 S6, CSh.l61 S6, CSh.l64 S6, CSh.l65 S6, CSh.l68 S6, CSh.l69 S6, CSh.l72 S6, CSh.l73 S6, CSh.l90 S6, CSh.l91 S6, CSh.p0_0 S6, CSh.p0_3 S6, CSh.p0_4 S6, CSh.p0_5 S6, CSh.p0_6 S6, CSh.p0_7 S6, CSh.p0_8 S6, CSh.p0_9 S6, CSh.p0_10 S6, CSh.p0_14 S6, CSh.p2_0 S6, CSh.p26_0 S6, CSh.p26_13 S6, CSh.p26_14 S6, CSh.p31_1 S6, CSh.p31_3 S6, CSh.p31_4 S6, CSh.p62_0 S6, CSh.p66_0 S6, CSh.p70_0 S6, CSh.p74_0 S6, CSh.p74_1 S6, CSh.p74_6 S6, CSh.p74_7 S6, CSh.p74_10 S6, CSh.p80_1 S6, CSh.p80_2 S6, CSh.p80_3 S6, CSh.p80_4 S6, CSh.p80_5 S6, CSh.p80_6 S6, CSh.p80_7 S6, CSh.p80_8 S6, CSh.p53_1 S6, CSh.p53_2 S6, CSh.p59_1 S6, CSh.p59_2 S6, CSh.p63_1 S6, CSh.p63_2 S6, CSh.p67_1 S6, CSh.p67_2 S6, CSh.p71_1 S6, CSh.p71_2 S6, CSh.p89_1 S6, CSh.p89_2 S6, o6, -Int.reduceToNat, -Int32.reduceToNatClampNeg, il0, il1, il2, il3, il4, il5, il6, il7, il8, il9, il10, il11, il12, il13, il14, il15, il16, il17, il18, il19, il20, il21, il22, il23, il24, il25, il26, il27, il28, il29, il30, il31, il32, il35, il36, il38, il40, il42, il43, il44, il45, il46, il47, il48, il49, il50, il51, il52, il57, il59, il60, il63, il64, il75, il80, il95, il96, il97, il98, il99, il100, il120, il122, il123, il127, il128, il135, il167, il175, il225, il249, il250, il255, il256, il360, il370, il384, il600, il700, il740, il900, il940, il1024, il1600, il4800, il64000, il125000, il262143, il1000000000, iI_toInt, iI_add, iI_sub, iI_mul, iI_neg, iI_lt, iI_le, iI_eq, iI_n, iI_in, iI_div, iI_mod, iI_shm, iI_and1, iI_and7, iI_and63, iI_shr3, iI_shr6, rd_I, ob, Option.some.injEq, exists_eq_left', exists_eq_left, true_and, and_true, fqI, fqJ, eq_self, true_or, or_true, bP_0, bP_0i, npP, bP_1i, bP_b, not_true_eq_false, not_false_eq_true, false_implies, true_implies, implies_true, Classical.not_not, and_self]
    intro h7 e7
    have G7 : Gr [] [] [(58, k.toNat)] h6 h7 := by
      have f7 : Fr [] [] [58] h6 h7 := e7 ▸ fr_hP
      exact f7.gr1 (by rcases kn with e | e <;> (rw [e]; decide)) (fun j hj => by rw [e7, aP_hP, if_neg hj])
    have pk : aP h7 58 k.toNat = some (aN h) := by rw [e7, aP_hP, if_pos rfl]
    have dyn : ∀ p, p ∈ [((58 : Nat), k.toNat)] → p ∈ DynP := fun p q => by rw [List.mem_singleton.mp q]; rcases kn with e | e <;> (rw [e]; decide)
    have K7 : SK h7 (aN h) (aN h + 1) := by
      obtain ⟨o0, p0, p1, tb, p3, o25, l25, p4, o26, l26⟩ := w3
      have dd : ∀ a k, aN h ≤ a → (a, k) ∉ DynP := fun a k ha => dyn_no (by omega)
      exact ⟨G7.ob o0, (G7.ptr o0.2 (dd _ _ (by omega))).trans p0, (G7.ptr o0.2 (dd _ _ (by omega))).trans p1, tb.gr G7 (fun k _ => dd _ _ (by omega)), (G7.ptr o0.2 (dd _ _ (by omega))).trans p3, G7.ob o25, (G7.len o25.2).trans l25, (G7.ptr o0.2 (dd _ _ (by omega))).trans p4, G7.ob o26, (G7.len o26.2).trans l26⟩
    refine x_image33 I hk hK ((G6.mono (by simp) (by simp) (by simp) dyn).trans G7) pk (by omega) K7 (w4.gr G7 (by omega)) ((G7.ptr w3.2.2.2.1.o0.2 (dyn_no (by omega))).trans w5) ⟨by rw [e7]; show aN h6 ≤ _; omega, by rw [e7]; show aS h6 ≤ _; omega⟩ ?_ ?_ (fun j so hj _ p => Or.inl (othr j so hj p))
    · have := Q.2.1.2; omega
    · have := Q.2.2.2.2.1.2; omega
  · refine ⟨fun e => absurd (ps.symm.trans e) (by simp), fun rv e => ?_⟩
    refine x_image33 I hk hK ((Gr.refl h).mono (by simp) (by simp) (by simp) (fun p q => by rw [List.mem_singleton.mp q]; rcases kn with e | e <;> (rw [e]; decide))) ps hsc Sk.1 Sk.2.1 Sk.2.2.2.2.1.2.1 ⟨by omega, by omega⟩ dq da (fun j so hj hne p => ?_)
    by_cases e0 : k.toNat = 0
    · have ej : j = 1 := by omega
      subst ej
      rw [e0] at ps
      have := IK.2.2 sc so ps p
      omega
    · have ej : j = 0 := by omega
      subst ej
      rw [show k.toNat = 1 by omega] at ps
      have := IK.2.2 so sc p ps
      omega
end IMAGES
