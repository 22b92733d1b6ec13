/-! the model made -/
def zcs2 : List (Nat × Nat) := [(15, 2), (14, 16), (13, 740), (13, 24), (13, 3), (13, 128), (13, 128), (13, 128), (13, 128), (13, 125000), (13, 125000), (13, 125000), (13, 125000), (13, 125000), (13, 24), (13, 5), (13, 24), (13, 24), (13, 24), (14, 18), (14, 16), (13, 120), (13, 250), (13, 370), (12, 940), (11, 53), (14, 8), (13, 8), (7, 3), (14, 8), (13, 4800), (14, 360), (13, 600), (13, 384), (14, 120), (13, 120), (13, 3), (0, 9), (13, 3), (13, 64), (13, 1024), (14, 256), (14, 1600), (6, 15), (14, 8), (13, 8), (7, 3), (8, 6), (14, 8), (13, 8), (7, 3), (8, 6), (14, 8), (13, 8), (7, 3), (8, 6), (14, 8), (13, 8), (7, 3), (16, 2), (13, 60), (13, 60), (14, 8), (13, 8), (7, 3), (13, 10), (13, 10), (13, 10), (13, 10), (9, 5), (13, 8), (13, 8), (13, 8), (13, 8), (13, 8), (4, 6), (13, 6), (13, 8), (13, 8), (13, 8), (13, 8), (13, 8), (13, 24), (14, 10), (13, 64), (1, 16), (5, 5), (13, 60), (13, 60), (12, 0), (13, 18), (3, 15), (13, 10), (13, 10), (13, 10), (13, 10), (9, 5), (13, 8), (13, 8), (13, 8), (13, 8), (13, 8), (4, 6), (13, 6), (13, 8), (13, 8), (13, 8), (13, 8), (13, 8), (13, 24), (14, 10), (13, 64), (1, 16), (12, 0), (13, 18), (2, 14), (12, 940), (10, 15)]
def zps2 : List ((Nat × Nat) × Nat) := [((92, 52), 117), ((92, 51), 116), ((92, 50), 115), ((92, 47), 114), ((92, 46), 113), ((92, 45), 112), ((92, 44), 111), ((92, 43), 110), ((92, 42), 109), ((92, 39), 108), ((92, 38), 107), ((92, 37), 106), ((92, 36), 105), ((92, 35), 104), ((92, 33), 103), ((92, 32), 102), ((92, 26), 101), ((92, 25), 100), ((92, 24), 99), ((92, 10), 98), ((92, 9), 97), ((92, 8), 96), ((92, 7), 95), ((92, 6), 94), ((92, 1), 93), ((0, 14), 74), ((74, 6), 89), ((89, 0), 32), ((89, 2), 91), ((89, 1), 90), ((74, 0), 80), ((80, 0), 32), ((80, 8), 88), ((80, 7), 87), ((80, 6), 86), ((80, 5), 85), ((80, 4), 84), ((80, 3), 83), ((80, 2), 82), ((80, 1), 81), ((74, 10), 79), ((74, 8), 78), ((74, 7), 77), ((74, 2), 76), ((74, 1), 75), ((0, 10), 70), ((70, 0), 71), ((71, 0), 32), ((71, 2), 73), ((71, 1), 72), ((0, 9), 66), ((66, 0), 67), ((67, 0), 32), ((67, 2), 69), ((67, 1), 68), ((0, 8), 62), ((62, 0), 63), ((63, 0), 32), ((63, 2), 65), ((63, 1), 64), ((0, 7), 59), ((59, 0), 32), ((59, 2), 61), ((59, 1), 60), ((0, 6), 58), ((0, 5), 31), ((31, 4), 57), ((31, 3), 56), ((31, 1), 53), ((53, 0), 32), ((53, 2), 55), ((53, 1), 54), ((31, 0), 32), ((32, 15), 48), ((48, 4), 52), ((48, 3), 51), ((48, 2), 50), ((48, 1), 49), ((32, 14), 42), ((42, 5), 47), ((42, 4), 46), ((42, 3), 45), ((42, 2), 44), ((42, 1), 43), ((32, 12), 41), ((32, 10), 40), ((32, 9), 39), ((32, 8), 38), ((32, 7), 37), ((32, 6), 36), ((32, 4), 35), ((32, 3), 34), ((32, 2), 33), ((0, 4), 26), ((26, 14), 30), ((26, 13), 29), ((26, 1), 28), ((26, 0), 27), ((0, 3), 2), ((2, 12), 5), ((5, 15), 21), ((21, 4), 25), ((21, 3), 24), ((21, 2), 23), ((21, 1), 22), ((5, 14), 15), ((15, 5), 20), ((15, 4), 19), ((15, 3), 18), ((15, 2), 17), ((15, 1), 16), ((5, 12), 14), ((5, 10), 13), ((5, 9), 12), ((5, 8), 11), ((5, 7), 10), ((5, 6), 9), ((5, 4), 8), ((5, 3), 7), ((5, 2), 6), ((2, 1), 4), ((2, 0), 3), ((0, 0), 1)]
def zvs2 : List (Nat × List Int32) := [(92, wrL (wrL 53 [] 34 (-1)).length (wrL 53 [] 34 (-1)) 48 (-1)), (0, wrL 15 [] 1 0), (74, wrL 15 [] 14 (-1)), (35, fill5), (27, tabL), (8, fill5), (3, tabL)]
def zjw2 : List Int64 := [7499639, 1953064037, 1918985844, 1886350437, 1919905893, 1836019570, 126931137819237, 108187867505765, 418497262196, 7566702, 1818846579, 474316174440, 1700885364, 495791207528, 2003137396, 495740085349, 1953854062, 2002872692]
theorem jw_ok : ∀ n, n < 18 → zjw2.getD n 0 = Int64.ofInt (w8 (kmL.getD n [])) := by decide +kernel
def JWr (g h : AH) (l : List Int64) : Prop := Fr [] [98] [] g h ∧ ∀ i, i < l.length → aJ h 98 i = l.getD i 0
theorem jw_step {g h : AH} {l : List Int64} {v : Int64} {X : Int32} {REST : AH → Prop} (M : MSh h) (J : JWr g h l) (c : X = iI l.length ∧ l.length < 18) (K : ∀ h', MSh h' → JWr g h' (l ++ [v]) → REST h') : (ob h 92 11) ∧ (∃ rv, aP h 92 10 = some rv ∧ ((ob h rv 14) ∧ ((vp_in X (aL h rv)) ∧ (∀ hv : AH, hv = hJ h rv X.toNatClampNeg v → REST hv)))) := by
  obtain ⟨c1, c2⟩ := c
  refine ⟨M.o0, 98, M.p10, M.o6, by rw [M.l6, c1]; exact iI_in (by omega) (by omega) (by omega), fun h' e => ?_⟩
  rw [c1, iI_n (by omega) (by omega), Int.toNat_natCast] at e
  have F : Fr [] [98] [] h h' := e ▸ fr_hJ
  refine K h' (M.gr F.gr) ⟨J.1.trans F, fun i hi => ?_⟩
  rw [e, aJ_hJ]
  rw [List.length_append, List.length_singleton] at hi
  by_cases ci : i = l.length
  · rw [if_pos ci, ci, List.getD_eq_getElem?_getD, List.getElem?_append_right (Nat.le_refl _), Nat.sub_self]
    rfl
  · rw [if_neg ci, J.2 i (by omega), List.getD_eq_getElem?_getD, List.getD_eq_getElem?_getD, List.getElem?_append_left (by omega)]
theorem m_copy {h : AH} {postV : AH → Prop} (M : MSh h) (K : ∀ h', Fr [94] [] [] h h' → (∀ i, 0 ≤ i → i < 225 → rd h' 94 i = rd h 95 i) → (∀ i, 225 ≤ i → rd h' 94 i = rd h 94 i) → postV h') : ∃ n, wl_X12_init_399 postV n h 92 (iI 0) := by
  refine lf_for (W := fun k (g : AH) i => wl_X12_init_399 postV k g 92 (iI i)) (lo := 0) (hi := 225) (fun i g => Fr [94] [] [] h g ∧ (∀ j, 0 ≤ j → j < i → rd g 94 j = rd h 95 j) ∧ ∀ j, i ≤ j → rd g 94 j = rd h 94 j) (by omega) (fun k g i i0 i1 I nx => ?_) (fun k g I => ?_) h ⟨(Fr.refl h).mono (by simp) (by simp) (by simp), fun j j0 j1 => by omega, fun j _ => rfl⟩
  · show wb_X12_init_399 (wl_X12_init_399 postV k) g 92 (iI i) postV
    have Mg := M.gr I.1.gr
    have e95 : rd g 95 = rd h 95 := I.1.row (by decide)
    unfold wb_X12_init_399
    simp (disch := omega) only [MSh.o0 Mg, MSh.p1 Mg, MSh.o1 Mg, MSh.l1 Mg, MSh.p6 Mg, MSh.o2 Mg, MSh.l2 Mg, MSh.p7 Mg, MSh.o3 Mg, MSh.l3 Mg, MSh.p8 Mg, MSh.o4 Mg, MSh.l4 Mg, MSh.p9 Mg, MSh.o5 Mg, MSh.l5 Mg, MSh.p10 Mg, MSh.o6 Mg, MSh.l6 Mg, MSh.p24 Mg, MSh.o7 Mg, MSh.l7 Mg, MSh.p25 Mg, MSh.o8 Mg, MSh.l8 Mg, MSh.p26 Mg, MSh.o9 Mg, MSh.l9 Mg, MSh.p32 Mg, MSh.o10 Mg, MSh.l10 Mg, MSh.p33 Mg, MSh.o11 Mg, MSh.l11 Mg, MSh.p35 Mg, MSh.o12 Mg, MSh.l12 Mg, MSh.p36 Mg, MSh.o13 Mg, MSh.l13 Mg, MSh.p37 Mg, MSh.o14 Mg, MSh.l14 Mg, MSh.p38 Mg, MSh.o15 Mg, MSh.l15 Mg, MSh.p39 Mg, MSh.o16 Mg, MSh.l16 Mg, MSh.p42 Mg, MSh.o17 Mg, MSh.l17 Mg, MSh.p43 Mg, MSh.o18 Mg, MSh.l18 Mg, MSh.p44 Mg, MSh.o19 Mg, MSh.l19 Mg, MSh.p45 Mg, MSh.o20 Mg, MSh.l20 Mg, MSh.p46 Mg, MSh.o21 Mg, MSh.l21 Mg, MSh.p47 Mg, MSh.o22 Mg, MSh.l22 Mg, MSh.p50 Mg, MSh.o23 Mg, MSh.l23 Mg, MSh.p51 Mg, MSh.o24 Mg, MSh.l24 Mg, MSh.p52 Mg, MSh.o25 Mg, MSh.l25 Mg, fd0, fd1, fd2, fd3, fd4, fd5, fd6, fd7, fd8, fd9, fd10, fd11, fd12, fd13, fd14, fd15, fd16, fd17, fd18, fd19, fd20, fd21, fd22, fd23, fd24, fd25, fd26, fd27, fd28, fd29, fd30, fd31, fd32, fd33, fd34, fd35, fd36, fd37, fd38, fd39, fd40, fd41, fd42, fd43, fd44, fd45, fd46, fd47, fd48, fd49, fd50, fd51, fd52, -Int.reduceToNat, -Int32.reduceToNatClampNeg, il0, il1, il2, il3, il4, il5, il6, il7, il8, il9, il10, il11, il12, il13, il14, il15, il16, il17, il18, il19, il20, il21, il22, il23, il24, il25, il26, il27, il28, il29, il30, il31, il32, il35, il36, il38, il40, il42, il43, il44, il45, il46, il47, il48, il49, il50, il51, il52, il57, il59, il60, il63, il64, il75, il80, il95, il96, il97, il98, il99, il100, il120, il122, il123, il127, il128, il135, il167, il175, il225, il249, il250, il255, il256, il360, il370, il384, il600, il700, il740, il900, il940, il1024, il1600, il4800, il64000, il125000, il262143, il1000000000, iI_toInt, iI_add, iI_sub, iI_mul, iI_neg, iI_lt, iI_le, iI_eq, iI_n, iI_in, iI_div, iI_mod, iI_shm, iI_and1, iI_and7, iI_and63, iI_shr3, iI_shr6, rd_I, ob, Option.some.injEq, exists_eq_left', exists_eq_left, true_and, and_true, fqI, fqJ, eq_self, true_or, or_true, bP_0, bP_0i, npP, bP_1i, bP_b, not_true_eq_false, not_false_eq_true, false_implies, true_implies, implies_true, Classical.not_not, and_self]
    refine ⟨fun u => by omega, fun _ => ?_⟩
    intro g1 w1
    have bd := rd_bd g 95 i
    obtain ⟨f1, r1⟩ := wI (i := i) (by omega) bd.1 bd.2 w1
    refine nx g1 ⟨I.1.trans f1, fun j j0 j1 => ?_, fun j j1 => ?_⟩
    · rw [r1]
      by_cases cj : j = i
      · rw [cj, updT_s, e95]
      · rw [updT_n cj]; exact I.2.1 j j0 (by omega)
    · rw [r1, updT_n (by omega)]
      exact I.2.2 j (by omega)
  · show wb_X12_init_399 (wl_X12_init_399 postV k) g 92 (iI 225) postV
    unfold wb_X12_init_399
    simp (disch := omega) only [-Int.reduceToNat, -Int32.reduceToNatClampNeg, il0, il1, il2, il3, il4, il5, il6, il7, il8, il9, il10, il11, il12, il13, il14, il15, il16, il17, il18, il19, il20, il21, il22, il23, il24, il25, il26, il27, il28, il29, il30, il31, il32, il35, il36, il38, il40, il42, il43, il44, il45, il46, il47, il48, il49, il50, il51, il52, il57, il59, il60, il63, il64, il75, il80, il95, il96, il97, il98, il99, il100, il120, il122, il123, il127, il128, il135, il167, il175, il225, il249, il250, il255, il256, il360, il370, il384, il600, il700, il740, il900, il940, il1024, il1600, il4800, il64000, il125000, il262143, il1000000000, iI_toInt, iI_add, iI_sub, iI_mul, iI_neg, iI_lt, iI_le, iI_eq, iI_n, iI_in, iI_div, iI_mod, iI_shm, iI_and1, iI_and7, iI_and63, iI_shr3, iI_shr6, rd_I, ob, Option.some.injEq, exists_eq_left', exists_eq_left, true_and, and_true, fqI, fqJ, eq_self, true_or, or_true, bP_0, bP_0i, npP, bP_1i, bP_b, not_true_eq_false, not_false_eq_true, false_implies, true_implies, implies_true, Classical.not_not, and_self]
    exact ⟨fun _ => K g I.1 I.2.1 I.2.2, fun q => absurd (Int.le_refl _) q⟩
theorem msh_of {h : AH} {S : Nat} (B : Zb h zcs2 zps2 zvs2 [] S) : MSh h := by
  have o : ∀ a k, (a < zcs2.length ∧ (lk zcs2 a).1 = k) → ob h a k := fun a k c => B.oo c
  have l : ∀ a k, (a < zcs2.length ∧ (lk zcs2 a).2 = k) → aL h a = k := fun a k c => B.ll c
  have p : ∀ a f t, ((a, f), t) ∈ zps2 → aP h a f = some t := fun a f t c => B.pp c
  exact ⟨o _ _ (by decide +kernel), p _ _ _ (by decide +kernel), o _ _ (by decide +kernel), l _ _ (by decide +kernel), p _ _ _ (by decide +kernel), o _ _ (by decide +kernel), l _ _ (by decide +kernel), p _ _ _ (by decide +kernel), o _ _ (by decide +kernel), l _ _ (by decide +kernel), p _ _ _ (by decide +kernel), o _ _ (by decide +kernel), l _ _ (by decide +kernel), p _ _ _ (by decide +kernel), o _ _ (by decide +kernel), l _ _ (by decide +kernel), p _ _ _ (by decide +kernel), o _ _ (by decide +kernel), l _ _ (by decide +kernel), p _ _ _ (by decide +kernel), o _ _ (by decide +kernel), l _ _ (by decide +kernel), p _ _ _ (by decide +kernel), o _ _ (by decide +kernel), l _ _ (by decide +kernel), p _ _ _ (by decide +kernel), o _ _ (by decide +kernel), l _ _ (by decide +kernel), p _ _ _ (by decide +kernel), o _ _ (by decide +kernel), l _ _ (by decide +kernel), p _ _ _ (by decide +kernel), o _ _ (by decide +kernel), l _ _ (by decide +kernel), p _ _ _ (by decide +kernel), o _ _ (by decide +kernel), l _ _ (by decide +kernel), p _ _ _ (by decide +kernel), o _ _ (by decide +kernel), l _ _ (by decide +kernel), p _ _ _ (by decide +kernel), o _ _ (by decide +kernel), l _ _ (by decide +kernel), p _ _ _ (by decide +kernel), o _ _ (by decide +kernel), l _ _ (by decide +kernel), p _ _ _ (by decide +kernel), o _ _ (by decide +kernel), l _ _ (by decide +kernel), p _ _ _ (by decide +kernel), o _ _ (by decide +kernel), l _ _ (by decide +kernel), p _ _ _ (by decide +kernel), o _ _ (by decide +kernel), l _ _ (by decide +kernel), p _ _ _ (by decide +kernel), o _ _ (by decide +kernel), l _ _ (by decide +kernel), p _ _ _ (by decide +kernel), o _ _ (by decide +kernel), l _ _ (by decide +kernel), p _ _ _ (by decide +kernel), o _ _ (by decide +kernel), l _ _ (by decide +kernel), p _ _ _ (by decide +kernel), o _ _ (by decide +kernel), l _ _ (by decide +kernel), p _ _ _ (by decide +kernel), o _ _ (by decide +kernel), l _ _ (by decide +kernel), p _ _ _ (by decide +kernel), o _ _ (by decide +kernel), l _ _ (by decide +kernel), p _ _ _ (by decide +kernel), o _ _ (by decide +kernel), l _ _ (by decide +kernel)⟩
set_option maxRecDepth 100000 in
theorem m_made {h : AH} {postV : AH → Prop} (B0 : Zb h ((11, 53) :: zcs1) zps1 zvs1 [] 11320) (k : ∀ h', Zb h' zcs2 zps2 ((94, []) :: (95, []) :: zvs2) [98] 639432 → (∀ i, i < 18 → aJ h' 98 i = zjw2.getD i 0) → (∀ i, rd h' 94 i = if 75 ≤ i ∧ i < 99 then 5 else 0) → postV h') : wp_X12_init h 92 postV := by
  unfold wp_X12_init
  refine ⟨by decide, Zb.al (o := 92) (ok := 11) (f := 1) (kd := 12) (len := 940) (S' := 12260) B0 93 (by decide +kernel) fun g1 B1 => ?_⟩
  clear B0
  refine ⟨by decide, Zb.al (o := 92) (ok := 11) (f := 6) (kd := 13) (len := 370) (S' := 12630) B1 94 (by decide +kernel) fun g2 B2 => ?_⟩
  clear B1
  refine ⟨by decide, Zb.al (o := 92) (ok := 11) (f := 7) (kd := 13) (len := 250) (S' := 12880) B2 95 (by decide +kernel) fun g3 B3 => ?_⟩
  clear B2
  refine ⟨by decide, Zb.al (o := 92) (ok := 11) (f := 8) (kd := 13) (len := 120) (S' := 13000) B3 96 (by decide +kernel) fun g4 B4 => ?_⟩
  clear B3
  refine ⟨by decide, Zb.al (o := 92) (ok := 11) (f := 9) (kd := 14) (len := 16) (S' := 13016) B4 97 (by decide +kernel) fun g5 B5 => ?_⟩
  clear B4
  refine ⟨by decide, Zb.al (o := 92) (ok := 11) (f := 10) (kd := 14) (len := 18) (S' := 13034) B5 98 (by decide +kernel) fun g6 B6 => ?_⟩
  clear B5
  refine ⟨by decide, Zb.al (o := 92) (ok := 11) (f := 24) (kd := 13) (len := 24) (S' := 13058) B6 99 (by decide +kernel) fun g7 B7 => ?_⟩
  clear B6
  refine ⟨by decide, Zb.al (o := 92) (ok := 11) (f := 25) (kd := 13) (len := 24) (S' := 13082) B7 100 (by decide +kernel) fun g8 B8 => ?_⟩
  clear B7
  refine ⟨by decide, Zb.al (o := 92) (ok := 11) (f := 26) (kd := 13) (len := 24) (S' := 13106) B8 101 (by decide +kernel) fun g9 B9 => ?_⟩
  clear B8
  refine ⟨by decide, Zb.al (o := 92) (ok := 11) (f := 32) (kd := 13) (len := 5) (S' := 13111) B9 102 (by decide +kernel) fun g10 B10 => ?_⟩
  clear B9
  refine ⟨by decide, Zb.al (o := 92) (ok := 11) (f := 33) (kd := 13) (len := 24) (S' := 13135) B10 103 (by decide +kernel) fun g11 B11 => ?_⟩
  clear B10
  refine ⟨B11.oo (o := 92) (by decide +kernel), fun g12 e12 => ?_⟩
  have B12 := B11.w0 (o := 92) (by decide +kernel) 53 e12
  clear B11 e12
  refine ⟨by decide, Zb.al (o := 92) (ok := 11) (f := 35) (kd := 13) (len := 125000) (S' := 138135) B12 104 (by decide +kernel) fun g13 B13 => ?_⟩
  clear B12
  refine ⟨by decide, Zb.al (o := 92) (ok := 11) (f := 36) (kd := 13) (len := 125000) (S' := 263135) B13 105 (by decide +kernel) fun g14 B14 => ?_⟩
  clear B13
  refine ⟨by decide, Zb.al (o := 92) (ok := 11) (f := 37) (kd := 13) (len := 125000) (S' := 388135) B14 106 (by decide +kernel) fun g15 B15 => ?_⟩
  clear B14
  refine ⟨by decide, Zb.al (o := 92) (ok := 11) (f := 38) (kd := 13) (len := 125000) (S' := 513135) B15 107 (by decide +kernel) fun g16 B16 => ?_⟩
  clear B15
  refine ⟨by decide, Zb.al (o := 92) (ok := 11) (f := 39) (kd := 13) (len := 125000) (S' := 638135) B16 108 (by decide +kernel) fun g17 B17 => ?_⟩
  clear B16
  refine ⟨by decide, Zb.al (o := 92) (ok := 11) (f := 42) (kd := 13) (len := 128) (S' := 638263) B17 109 (by decide +kernel) fun g18 B18 => ?_⟩
  clear B17
  refine ⟨by decide, Zb.al (o := 92) (ok := 11) (f := 43) (kd := 13) (len := 128) (S' := 638391) B18 110 (by decide +kernel) fun g19 B19 => ?_⟩
  clear B18
  refine ⟨by decide, Zb.al (o := 92) (ok := 11) (f := 44) (kd := 13) (len := 128) (S' := 638519) B19 111 (by decide +kernel) fun g20 B20 => ?_⟩
  clear B19
  refine ⟨by decide, Zb.al (o := 92) (ok := 11) (f := 45) (kd := 13) (len := 128) (S' := 638647) B20 112 (by decide +kernel) fun g21 B21 => ?_⟩
  clear B20
  refine ⟨by decide, Zb.al (o := 92) (ok := 11) (f := 46) (kd := 13) (len := 3) (S' := 638650) B21 113 (by decide +kernel) fun g22 B22 => ?_⟩
  clear B21
  refine ⟨by decide, Zb.al (o := 92) (ok := 11) (f := 47) (kd := 13) (len := 24) (S' := 638674) B22 114 (by decide +kernel) fun g23 B23 => ?_⟩
  clear B22
  refine ⟨B23.oo (o := 92) (by decide +kernel), fun g24 e24 => ?_⟩
  have B24 := B23.w1 (o := 92) (by decide +kernel) e24
  clear B23 e24
  refine ⟨by decide, Zb.al (o := 92) (ok := 11) (f := 50) (kd := 13) (len := 740) (S' := 639414) B24 115 (by decide +kernel) fun g25 B25 => ?_⟩
  clear B24
  refine ⟨by decide, Zb.al (o := 92) (ok := 11) (f := 51) (kd := 14) (len := 16) (S' := 639430) B25 116 (by decide +kernel) fun g26 B26 => ?_⟩
  clear B25
  refine ⟨by decide, Zb.al (o := 92) (ok := 11) (f := 52) (kd := 15) (len := 2) (S' := 639432) B26 117 (by decide +kernel) fun g27 B27 => ?_⟩
  clear B26
  have BF : Zb g27 zcs2 zps2 zvs2 [] 639432 := B27
  clear B27
  have M0 := msh_of BF
  have J0 : JWr g27 g27 [] := ⟨(Fr.refl g27).mono (by simp) (by simp) (by simp), fun i hi => absurd hi (Nat.not_lt_zero _)⟩
  refine jw_step (X := 0) (v := 7499639) M0 J0 (by decide +kernel) fun h1 M1 J1 => ?_
  clear M0 J0
  refine jw_step (X := 1) (v := 1953064037) M1 J1 (by decide +kernel) fun h2 M2 J2 => ?_
  clear M1 J1
  refine jw_step (X := 2) (v := 1918985844) M2 J2 (by decide +kernel) fun h3 M3 J3 => ?_
  clear M2 J2
  refine jw_step (X := 3) (v := 1886350437) M3 J3 (by decide +kernel) fun h4 M4 J4 => ?_
  clear M3 J3
  refine jw_step (X := 4) (v := 1919905893) M4 J4 (by decide +kernel) fun h5 M5 J5 => ?_
  clear M4 J4
  refine jw_step (X := 5) (v := 1836019570) M5 J5 (by decide +kernel) fun h6 M6 J6 => ?_
  clear M5 J5
  refine jw_step (X := 6) (v := 126931137819237) M6 J6 (by decide +kernel) fun h7 M7 J7 => ?_
  clear M6 J6
  refine jw_step (X := 7) (v := 108187867505765) M7 J7 (by decide +kernel) fun h8 M8 J8 => ?_
  clear M7 J7
  refine jw_step (X := 8) (v := 418497262196) M8 J8 (by decide +kernel) fun h9 M9 J9 => ?_
  clear M8 J8
  refine jw_step (X := 9) (v := 7566702) M9 J9 (by decide +kernel) fun h10 M10 J10 => ?_
  clear M9 J9
  refine jw_step (X := 10) (v := 1818846579) M10 J10 (by decide +kernel) fun h11 M11 J11 => ?_
  clear M10 J10
  refine jw_step (X := 11) (v := 474316174440) M11 J11 (by decide +kernel) fun h12 M12 J12 => ?_
  clear M11 J11
  refine jw_step (X := 12) (v := 1700885364) M12 J12 (by decide +kernel) fun h13 M13 J13 => ?_
  clear M12 J12
  refine jw_step (X := 13) (v := 495791207528) M13 J13 (by decide +kernel) fun h14 M14 J14 => ?_
  clear M13 J13
  refine jw_step (X := 14) (v := 2003137396) M14 J14 (by decide +kernel) fun h15 M15 J15 => ?_
  clear M14 J14
  refine jw_step (X := 15) (v := 495740085349) M15 J15 (by decide +kernel) fun h16 M16 J16 => ?_
  clear M15 J15
  refine jw_step (X := 16) (v := 1953854062) M16 J16 (by decide +kernel) fun h17 M17 J17 => ?_
  clear M16 J16
  refine jw_step (X := 17) (v := 2002872692) M17 J17 (by decide +kernel) fun h18 M18 J18 => ?_
  clear M17 J17
  refine ⟨M18.o0, m_plain M18 fun h19 F19 V19 => m_copy (M18.gr F19.gr) fun h20 F20 V20 W20 => ?_⟩
  have z94 : ∀ i, rd h18 94 i = 0 := fun i => by
    rw [J18.1.row List.not_mem_nil]
    exact BF.i0 (by decide +kernel) i
  have B18 := BF.frJ J18.1
  have B19 := B18.fr (l := []) F19 (by decide +kernel) (fun i hi => absurd hi (Nat.not_lt_zero _))
  have B20 := B19.fr (l := []) F20 (by decide +kernel) (fun i hi => absurd hi (Nat.not_lt_zero _))
  refine k h20 B20 (fun i hi => ?_) (fun i => ?_)
  · rw [F20.2.2.2.2.2.1 98 List.not_mem_nil, F19.2.2.2.2.2.1 98 List.not_mem_nil]
    exact J18.2 i hi
  · by_cases c0 : i < 0
    · rw [rd_neg c0, if_neg (by omega)]
    by_cases c1 : i < 225
    · rw [V20 i (by omega) c1, V19 i (by omega) (by omega)]
      rfl
    · rw [W20 i (by omega), F19.row (by decide), z94, if_neg (by omega)]
