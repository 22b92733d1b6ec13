/-! ALONE in the model -/
/-- what the model's rows hold of the TOWNS come to -/
def MRp (h : AH) (a1 a2 a3 a4 : Nat) (M : Int) (S : BS) : Prop := (∀ j, 0 ≤ j → j < S.1 → rd h a1 (S.2.1 j) = dpt S.2.2.1 j) ∧ (∀ v, 0 ≤ v → v < M → ¬ seenB S v → rd h a1 v = -1) ∧ (∀ j, 0 < j → j < S.1 → rd h a2 (S.2.1 j) = S.2.1 (S.2.2.1 j)) ∧ (∀ j, 0 < j → j < S.1 → rd h a3 (S.2.1 j) = dcd (S.2.2.2 j)) ∧ (∀ j, 0 ≤ j → j < S.1 → rd h a4 j = S.2.1 j)
theorem MRp.rg {h : AH} {a1 a2 a3 a4 : Nat} {M : Int} {S : BS} (R : MRp h a1 a2 a3 a4 M S) : ∀ j, 0 ≤ j → j < S.1 → rd h a1 (S.2.1 j) = dpt S.2.2.1 j := R.1
theorem MRp.rn {h : AH} {a1 a2 a3 a4 : Nat} {M : Int} {S : BS} (R : MRp h a1 a2 a3 a4 M S) : ∀ v, 0 ≤ v → v < M → ¬ seenB S v → rd h a1 v = -1 := R.2.1
theorem MRp.cm {h : AH} {a1 a2 a3 a4 : Nat} {M : Int} {S : BS} (R : MRp h a1 a2 a3 a4 M S) : ∀ j, 0 < j → j < S.1 → rd h a2 (S.2.1 j) = S.2.1 (S.2.2.1 j) := R.2.2.1
theorem MRp.bb {h : AH} {a1 a2 a3 a4 : Nat} {M : Int} {S : BS} (R : MRp h a1 a2 a3 a4 M S) : ∀ j, 0 < j → j < S.1 → rd h a3 (S.2.1 j) = dcd (S.2.2.2 j) := R.2.2.2.1
theorem MRp.qu {h : AH} {a1 a2 a3 a4 : Nat} {M : Int} {S : BS} (R : MRp h a1 a2 a3 a4 M S) : ∀ j, 0 ≤ j → j < S.1 → rd h a4 j = S.2.1 j := R.2.2.2.2
section MRS
variable {h h1 h2 h' h0 g : AH} {a1 a2 a3 a4 : Nat} {postV : AH → Prop} {post : AH → Int32 → Prop} {V : Int → Prop} {a b c d f i j k t' v w x y pl r hr how goal st u M lo hi : Int} {s t z X F B : Int → Int} {S : BS}
theorem MRp.cg (P : MRp h a1 a2 a3 a4 M S) (e1 : rd h' a1 = rd h a1) (e2 : rd h' a2 = rd h a2) (e3 : rd h' a3 = rd h a3) (e4 : rd h' a4 = rd h a4) : MRp h' a1 a2 a3 a4 M S := by
  unfold MRp at P ⊢
  rw [e1, e2, e3, e4]
  exact P
theorem MRp.push (P : MRp h a1 a2 a3 a4 M S) (I : BI V lo hi S) (i0 : 0 ≤ i) (i1 : i < S.1) (ns : ¬ seenB S v) (e1 : rd h' a1 = updT (rd h a1) v (dpt S.2.2.1 i + 1)) (e2 : rd h' a2 = updT (rd h a2) v (S.2.1 i)) (e3 : rd h' a3 = updT (rd h a3) v (dcd a)) (e4 : rd h' a4 = updT (rd h a4) S.1 v) : MRp h' a1 a2 a3 a4 M (S.1 + 1, updT S.2.1 S.1 v, updT S.2.2.1 S.1 i, updT S.2.2.2 S.1 a) := by
  obtain ⟨rg, rn, cm, bb, qu⟩ := P
  have fg := I.fg
  have t1 := I.1
  obtain ⟨t, Q, F, B⟩ := S
  have i1 : i < t := i1
  have t1 : 1 ≤ t := t1
  have fg : FGd F t := fg
  have rg : ∀ j, 0 ≤ j → j < t → rd h a1 (Q j) = dpt F j := rg
  have cm : ∀ j, 0 < j → j < t → rd h a2 (Q j) = Q (F j) := cm
  have bb : ∀ j, 0 < j → j < t → rd h a3 (Q j) = dcd (B j) := bb
  have qu : ∀ j, 0 ≤ j → j < t → rd h a4 j = Q j := qu
  have rn : ∀ v, 0 ≤ v → v < M → ¬ seenB (t, Q, F, B) v → rd h a1 v = -1 := rn
  have ne : ∀ j, 0 ≤ j → j < t → ¬ Q j = v := fun j j0 j1 e => ns ⟨j, j0, j1, e⟩
  have fg' : FGd (updT F t i) (t + 1) := fun j j0 j1 => by
    by_cases cj : j = t
    · rw [cj, updT_s]; omega
    · rw [updT_n cj]; exact fg j j0 (by omega)
  have dc : ∀ j, j < t → dpt (updT F t i) j = dpt F j := fun j hj => dpt_cg fg (fun k hk => updT_n (by omega)) j.toNat j (by omega) hj
  have e1 : rd h' a1 = updT (rd h a1) v (dpt F i + 1) := e1
  have e2 : rd h' a2 = updT (rd h a2) v (Q i) := e2
  have e4 : rd h' a4 = updT (rd h a4) t v := e4
  refine ⟨fun j j0 j1 => ?_, fun w w0 w1 nw => ?_, fun j j0 j1 => ?_, fun j j0 j1 => ?_, fun j j0 j1 => ?_⟩
  · have j1 : j < t + 1 := j1
    show rd h' a1 (updT Q t v j) = dpt (updT F t i) j
    rw [e1]
    by_cases cj : j = t
    · rw [cj, updT_s, updT_s, dpt_s fg' (by omega) (by omega), updT_s, dc i i1]
    · rw [updT_n cj, updT_n (ne j j0 (by omega)), dc j (by omega)]; exact rg j j0 (by omega)
  · have nv : ¬ w = v := fun e => nw ⟨t, by omega, by show t < t + 1; omega, by show updT Q t v t = w; rw [updT_s, e]⟩
    rw [e1, updT_n nv]
    refine rn w w0 w1 fun ⟨j, j0, j1, j2⟩ => nw ⟨j, j0, by show j < t + 1; have : j < t := j1; omega, ?_⟩
    show updT Q t v j = w
    have j1 : j < t := j1
    rw [updT_n (by omega)]; exact j2
  · have j1 : j < t + 1 := j1
    show rd h' a2 (updT Q t v j) = updT Q t v (updT F t i j)
    rw [e2]
    by_cases cj : j = t
    · rw [cj, updT_s, updT_s, updT_s, updT_n (by omega)]
    · have g := fg j j0 (by omega)
      rw [updT_n cj, updT_n cj, updT_n (ne j (by omega) (by omega)), updT_n (by omega)]; exact cm j j0 (by omega)
  · have j1 : j < t + 1 := j1
    show rd h' a3 (updT Q t v j) = dcd (updT B t a j)
    rw [e3]
    by_cases cj : j = t
    · rw [cj, updT_s, updT_s, updT_s]
    · rw [updT_n cj, updT_n cj, updT_n (ne j (by omega) (by omega))]; exact bb j j0 (by omega)
  · have j1 : j < t + 1 := j1
    show rd h' a4 j = updT Q t v j
    rw [e4]
    by_cases cj : j = t
    · rw [cj, updT_s, updT_s]
    · rw [updT_n cj, updT_n cj]; exact qu j j0 (by omega)
theorem MRp.start (e1 : ∀ w, 0 ≤ w → w < M → rd h a1 w = if w = v then 0 else -1) (hv : 0 ≤ v ∧ v < M) (e4 : rd h a4 0 = v) : MRp h a1 a2 a3 a4 M (bGo v) := by
  refine ⟨fun j j0 j1 => ?_, fun w w0 w1 nw => ?_, fun j j0 j1 => ?_, fun j j0 j1 => ?_, fun j j0 j1 => ?_⟩
  · have j1 : j < 1 := j1
    show rd h a1 v = dpt (fun _ => 0) j
    rw [e1 v hv.1 hv.2, if_pos rfl, dpt_0 (by omega)]
  · rw [e1 w w0 w1, if_neg fun e => nw ⟨0, Int.le_refl _, by show (0 : Int) < 1; omega, e.symm⟩]
  · have j1 : j < 1 := j1
    omega
  · have j1 : j < 1 := j1
    omega
  · have j1 : j < 1 := j1
    rw [show j = 0 by omega]; exact e4
/-- the model while it looks for ALONE -/
def MA1 (h0 h : AH) (s t z : Int → Int) (r : Int) (S : BS) : Prop := (MSh h) ∧ (Fr [99, 109, 110, 111, 112] [] [] h0 h) ∧ (rd h 94 = s) ∧ (rd h 100 = z) ∧ (∀ j, j < 3 * r ∨ 3 * r + 2 < j → rd h 99 j = t j) ∧ (MRp h 109 110 111 112 128 S)
theorem MA1.MM {h0 h : AH} {s t z : Int → Int} {r : Int} {S : BS} (R : MA1 h0 h s t z r S) : MSh h := R.1
theorem MA1.FF {h0 h : AH} {s t z : Int → Int} {r : Int} {S : BS} (R : MA1 h0 h s t z r S) : Fr [99, 109, 110, 111, 112] [] [] h0 h := R.2.1
theorem MA1.s94 {h0 h : AH} {s t z : Int → Int} {r : Int} {S : BS} (R : MA1 h0 h s t z r S) : rd h 94 = s := R.2.2.1
theorem MA1.z10 {h0 h : AH} {s t z : Int → Int} {r : Int} {S : BS} (R : MA1 h0 h s t z r S) : rd h 100 = z := R.2.2.2.1
theorem MA1.t99 {h0 h : AH} {s t z : Int → Int} {r : Int} {S : BS} (R : MA1 h0 h s t z r S) : ∀ j, j < 3 * r ∨ 3 * r + 2 < j → rd h 99 j = t j := R.2.2.2.2.1
theorem MA1.P {h0 h : AH} {s t z : Int → Int} {r : Int} {S : BS} (R : MA1 h0 h s t z r S) : MRp h 109 110 111 112 128 S := R.2.2.2.2.2
theorem m_place (M : MSh h) (h1 : 0 ≤ r) (h2 : r < 8) : wp_X12_place h 92 (iI r) post ↔ post h (iI (plc (rd h 99) r)) := by
  unfold wp_X12_place plc
  simp (disch := omega) only [MSh.o0 M, MSh.p1 M, MSh.o1 M, MSh.l1 M, MSh.p6 M, MSh.o2 M, MSh.l2 M, MSh.p7 M, MSh.o3 M, MSh.l3 M, MSh.p8 M, MSh.o4 M, MSh.l4 M, MSh.p9 M, MSh.o5 M, MSh.l5 M, MSh.p10 M, MSh.o6 M, MSh.l6 M, MSh.p24 M, MSh.o7 M, MSh.l7 M, MSh.p25 M, MSh.o8 M, MSh.l8 M, MSh.p26 M, MSh.o9 M, MSh.l9 M, MSh.p32 M, MSh.o10 M, MSh.l10 M, MSh.p33 M, MSh.o11 M, MSh.l11 M, MSh.p35 M, MSh.o12 M, MSh.l12 M, MSh.p36 M, MSh.o13 M, MSh.l13 M, MSh.p37 M, MSh.o14 M, MSh.l14 M, MSh.p38 M, MSh.o15 M, MSh.l15 M, MSh.p39 M, MSh.o16 M, MSh.l16 M, MSh.p42 M, MSh.o17 M, MSh.l17 M, MSh.p43 M, MSh.o18 M, MSh.l18 M, MSh.p44 M, MSh.o19 M, MSh.l19 M, MSh.p45 M, MSh.o20 M, MSh.l20 M, MSh.p46 M, MSh.o21 M, MSh.l21 M, MSh.p47 M, MSh.o22 M, MSh.l22 M, MSh.p50 M, MSh.o23 M, MSh.l23 M, MSh.p51 M, MSh.o24 M, MSh.l24 M, MSh.p52 M, MSh.o25 M, MSh.l25 M, -Int.reduceToNat, -Int32.reduceToNatClampNeg, il0, il1, il2, il3, il4, il5, il6, il7, il8, il9, il10, il11, il12, il13, il14, il15, il16, il17, il18, il19, il20, il21, il22, il23, il24, il25, il26, il27, il28, il29, il30, il31, il32, il35, il36, il38, il40, il42, il43, il44, il45, il46, il47, il48, il49, il50, il51, il52, il57, il59, il60, il63, il64, il75, il80, il95, il96, il97, il98, il99, il100, il120, il122, il123, il127, il128, il135, il167, il175, il225, il249, il250, il255, il256, il360, il370, il384, il600, il700, il740, il900, il940, il1024, il1600, il4800, il64000, il125000, il262143, il1000000000, iI_toInt, iI_add, iI_sub, iI_mul, iI_neg, iI_lt, iI_le, iI_eq, iI_n, iI_in, iI_div, iI_mod, iI_shm, iI_and1, iI_and7, iI_and63, iI_shr3, iI_shr6, rd_I, ob, Option.some.injEq, exists_eq_left', exists_eq_left, true_and, and_true, fqI, fqJ, eq_self, true_or, or_true, bP_0, bP_0i, npP, bP_1i, bP_b, not_true_eq_false, not_false_eq_true, false_implies, true_implies, implies_true, Classical.not_not, and_self]
theorem m_putAt (M : MSh h) (h1 : 0 ≤ r) (h2 : r < 8) (hv : 0 ≤ v ∧ v < 128) (K : ∀ h', Fr [99] [] [] h h' → rd h' 99 = tr3 (rd h 99) r (v / 2 % 8) (v / 16) (v % 2) → postV h') : wp_X12_putAt h 92 (iI r) (iI v) postV := by
  unfold wp_X12_putAt
  simp (disch := omega) only [MSh.o0 M, MSh.p1 M, MSh.o1 M, MSh.l1 M, MSh.p6 M, MSh.o2 M, MSh.l2 M, MSh.p7 M, MSh.o3 M, MSh.l3 M, MSh.p8 M, MSh.o4 M, MSh.l4 M, MSh.p9 M, MSh.o5 M, MSh.l5 M, MSh.p10 M, MSh.o6 M, MSh.l6 M, MSh.p24 M, MSh.o7 M, MSh.l7 M, MSh.p25 M, MSh.o8 M, MSh.l8 M, MSh.p26 M, MSh.o9 M, MSh.l9 M, MSh.p32 M, MSh.o10 M, MSh.l10 M, MSh.p33 M, MSh.o11 M, MSh.l11 M, MSh.p35 M, MSh.o12 M, MSh.l12 M, MSh.p36 M, MSh.o13 M, MSh.l13 M, MSh.p37 M, MSh.o14 M, MSh.l14 M, MSh.p38 M, MSh.o15 M, MSh.l15 M, MSh.p39 M, MSh.o16 M, MSh.l16 M, MSh.p42 M, MSh.o17 M, MSh.l17 M, MSh.p43 M, MSh.o18 M, MSh.l18 M, MSh.p44 M, MSh.o19 M, MSh.l19 M, MSh.p45 M, MSh.o20 M, MSh.l20 M, MSh.p46 M, MSh.o21 M, MSh.l21 M, MSh.p47 M, MSh.o22 M, MSh.l22 M, MSh.p50 M, MSh.o23 M, MSh.l23 M, MSh.p51 M, MSh.o24 M, MSh.l24 M, MSh.p52 M, MSh.o25 M, MSh.l25 M, -Int.reduceToNat, -Int32.reduceToNatClampNeg, il0, il1, il2, il3, il4, il5, il6, il7, il8, il9, il10, il11, il12, il13, il14, il15, il16, il17, il18, il19, il20, il21, il22, il23, il24, il25, il26, il27, il28, il29, il30, il31, il32, il35, il36, il38, il40, il42, il43, il44, il45, il46, il47, il48, il49, il50, il51, il52, il57, il59, il60, il63, il64, il75, il80, il95, il96, il97, il98, il99, il100, il120, il122, il123, il127, il128, il135, il167, il175, il225, il249, il250, il255, il256, il360, il370, il384, il600, il700, il740, il900, il940, il1024, il1600, il4800, il64000, il125000, il262143, il1000000000, iI_toInt, iI_add, iI_sub, iI_mul, iI_neg, iI_lt, iI_le, iI_eq, iI_n, iI_in, iI_div, iI_mod, iI_shm, iI_and1, iI_and7, iI_and63, iI_shr3, iI_shr6, rd_I, ob, Option.some.injEq, exists_eq_left', exists_eq_left, true_and, and_true, fqI, fqJ, eq_self, true_or, or_true, bP_0, bP_0i, npP, bP_1i, bP_b, not_true_eq_false, not_false_eq_true, false_implies, true_implies, implies_true, Classical.not_not, and_self]
  intro g1 w1
  obtain ⟨f1, r1⟩ := wI (i := 3 * r) (by omega) (by omega) (by omega) w1
  have M1 := M.gr f1.gr
  simp (disch := omega) only [MSh.o0 M1, MSh.p1 M1, MSh.o1 M1, MSh.l1 M1, MSh.p6 M1, MSh.o2 M1, MSh.l2 M1, MSh.p7 M1, MSh.o3 M1, MSh.l3 M1, MSh.p8 M1, MSh.o4 M1, MSh.l4 M1, MSh.p9 M1, MSh.o5 M1, MSh.l5 M1, MSh.p10 M1, MSh.o6 M1, MSh.l6 M1, MSh.p24 M1, MSh.o7 M1, MSh.l7 M1, MSh.p25 M1, MSh.o8 M1, MSh.l8 M1, MSh.p26 M1, MSh.o9 M1, MSh.l9 M1, MSh.p32 M1, MSh.o10 M1, MSh.l10 M1, MSh.p33 M1, MSh.o11 M1, MSh.l11 M1, MSh.p35 M1, MSh.o12 M1, MSh.l12 M1, MSh.p36 M1, MSh.o13 M1, MSh.l13 M1, MSh.p37 M1, MSh.o14 M1, MSh.l14 M1, MSh.p38 M1, MSh.o15 M1, MSh.l15 M1, MSh.p39 M1, MSh.o16 M1, MSh.l16 M1, MSh.p42 M1, MSh.o17 M1, MSh.l17 M1, MSh.p43 M1, MSh.o18 M1, MSh.l18 M1, MSh.p44 M1, MSh.o19 M1, MSh.l19 M1, MSh.p45 M1, MSh.o20 M1, MSh.l20 M1, MSh.p46 M1, MSh.o21 M1, MSh.l21 M1, MSh.p47 M1, MSh.o22 M1, MSh.l22 M1, MSh.p50 M1, MSh.o23 M1, MSh.l23 M1, MSh.p51 M1, MSh.o24 M1, MSh.l24 M1, MSh.p52 M1, MSh.o25 M1, MSh.l25 M1, -Int.reduceToNat, -Int32.reduceToNatClampNeg, il0, il1, il2, il3, il4, il5, il6, il7, il8, il9, il10, il11, il12, il13, il14, il15, il16, il17, il18, il19, il20, il21, il22, il23, il24, il25, il26, il27, il28, il29, il30, il31, il32, il35, il36, il38, il40, il42, il43, il44, il45, il46, il47, il48, il49, il50, il51, il52, il57, il59, il60, il63, il64, il75, il80, il95, il96, il97, il98, il99, il100, il120, il122, il123, il127, il128, il135, il167, il175, il225, il249, il250, il255, il256, il360, il370, il384, il600, il700, il740, il900, il940, il1024, il1600, il4800, il64000, il125000, il262143, il1000000000, iI_toInt, iI_add, iI_sub, iI_mul, iI_neg, iI_lt, iI_le, iI_eq, iI_n, iI_in, iI_div, iI_mod, iI_shm, iI_and1, iI_and7, iI_and63, iI_shr3, iI_shr6, rd_I, ob, Option.some.injEq, exists_eq_left', exists_eq_left, true_and, and_true, fqI, fqJ, eq_self, true_or, or_true, bP_0, bP_0i, npP, bP_1i, bP_b, not_true_eq_false, not_false_eq_true, false_implies, true_implies, implies_true, Classical.not_not, and_self]
  intro g2 w2
  obtain ⟨f2, r2⟩ := wI (i := 3 * r + 1) (by omega) (by omega) (by omega) w2
  have M2 := M1.gr f2.gr
  simp (disch := omega) only [MSh.o0 M2, MSh.p1 M2, MSh.o1 M2, MSh.l1 M2, MSh.p6 M2, MSh.o2 M2, MSh.l2 M2, MSh.p7 M2, MSh.o3 M2, MSh.l3 M2, MSh.p8 M2, MSh.o4 M2, MSh.l4 M2, MSh.p9 M2, MSh.o5 M2, MSh.l5 M2, MSh.p10 M2, MSh.o6 M2, MSh.l6 M2, MSh.p24 M2, MSh.o7 M2, MSh.l7 M2, MSh.p25 M2, MSh.o8 M2, MSh.l8 M2, MSh.p26 M2, MSh.o9 M2, MSh.l9 M2, MSh.p32 M2, MSh.o10 M2, MSh.l10 M2, MSh.p33 M2, MSh.o11 M2, MSh.l11 M2, MSh.p35 M2, MSh.o12 M2, MSh.l12 M2, MSh.p36 M2, MSh.o13 M2, MSh.l13 M2, MSh.p37 M2, MSh.o14 M2, MSh.l14 M2, MSh.p38 M2, MSh.o15 M2, MSh.l15 M2, MSh.p39 M2, MSh.o16 M2, MSh.l16 M2, MSh.p42 M2, MSh.o17 M2, MSh.l17 M2, MSh.p43 M2, MSh.o18 M2, MSh.l18 M2, MSh.p44 M2, MSh.o19 M2, MSh.l19 M2, MSh.p45 M2, MSh.o20 M2, MSh.l20 M2, MSh.p46 M2, MSh.o21 M2, MSh.l21 M2, MSh.p47 M2, MSh.o22 M2, MSh.l22 M2, MSh.p50 M2, MSh.o23 M2, MSh.l23 M2, MSh.p51 M2, MSh.o24 M2, MSh.l24 M2, MSh.p52 M2, MSh.o25 M2, MSh.l25 M2, -Int.reduceToNat, -Int32.reduceToNatClampNeg, il0, il1, il2, il3, il4, il5, il6, il7, il8, il9, il10, il11, il12, il13, il14, il15, il16, il17, il18, il19, il20, il21, il22, il23, il24, il25, il26, il27, il28, il29, il30, il31, il32, il35, il36, il38, il40, il42, il43, il44, il45, il46, il47, il48, il49, il50, il51, il52, il57, il59, il60, il63, il64, il75, il80, il95, il96, il97, il98, il99, il100, il120, il122, il123, il127, il128, il135, il167, il175, il225, il249, il250, il255, il256, il360, il370, il384, il600, il700, il740, il900, il940, il1024, il1600, il4800, il64000, il125000, il262143, il1000000000, iI_toInt, iI_add, iI_sub, iI_mul, iI_neg, iI_lt, iI_le, iI_eq, iI_n, iI_in, iI_div, iI_mod, iI_shm, iI_and1, iI_and7, iI_and63, iI_shr3, iI_shr6, rd_I, ob, Option.some.injEq, exists_eq_left', exists_eq_left, true_and, and_true, fqI, fqJ, eq_self, true_or, or_true, bP_0, bP_0i, npP, bP_1i, bP_b, not_true_eq_false, not_false_eq_true, false_implies, true_implies, implies_true, Classical.not_not, and_self]
  intro g3 w3
  obtain ⟨f3, r3⟩ := wI (i := 3 * r + 2) (by omega) (by omega) (by omega) w3
  refine K g3 (f1.trans (f2.trans f3)) ?_
  rw [r3, r2, r1]
  unfold tr3
  rw [show v / 2 - v / 2 / 8 * 8 = v / 2 % 8 by omega, show v - v / 2 * 2 = v % 2 by omega]
theorem MA1.act (A : MA1 h0 h s t z r S) (I : BI (VA s t z r) (5 * r) (5 * r + 5) S) (gs : GS s) (e : EZ z s) (hr8 : 0 ≤ r ∧ r < s 2) (hh : 0 ≤ hr ∧ hr < 24) (ho : 0 ≤ how ∧ how < 5) (hi : 0 ≤ i ∧ i < S.1) {K123 : AH → Nat → Int32 → Int32 → Int32 → Int32 → Int32 → Prop} {K142 : AH → Nat → Int32 → Int32 → Int32 → Int32 → Int32 → Int32 → Int32 → Prop} (K : ∀ h', MA1 h0 h' s t z r (bAct (nxA s t z r hr) i (5 * r + how) S) → K142 h' 92 (iI r) (iI hr) (iI goal) (iI (bAct (nxA s t z r hr) i (5 * r + how) S).1) (iI i) (iI (S.2.1 i)) (iI (how + 1))) :
    wb_X12_alone_142 K123 K142 h 92 (iI r) (iI hr) (iI goal) (iI S.1) (iI i) (iI (S.2.1 i)) (iI how) post := by
  have n2 : s 2 ≤ 8 := gs.1.2.2.2.1
  have n0 : s 0 ≤ 8 := gs.1.2.1
  have n1 : s 1 ≤ 8 := gs.1.2.2.1
  have hZ : ∀ o, 0 ≤ o → o < s 2 → Z1 z o := fun o o0 o1 => Z1.of e gs.2.1 o0 o1 n2
  have vi := I.2.1 i hi.1 hi.2
  have vib := vi.1
  have t128 := I.le (M := 128) (fun v hv => hv.1)
  obtain ⟨M, FF, s94, z10, t99, P⟩ := A
  have nxe : nxA s t z r hr (S.2.1 i) (5 * r + how) = iteP (whyT s (ptA t r (S.2.1 i)) z r how hr = 0) (plc (candT s (ptA t r (S.2.1 i)) z r how) r) (-1) := by
    unfold nxA
    rw [show 5 * r + how - 5 * r = how by omega]
  unfold wb_X12_alone_142 wb_X12_alone_241
  simp (disch := omega) only [MSh.o0 M, MSh.p1 M, MSh.o1 M, MSh.l1 M, MSh.p6 M, MSh.o2 M, MSh.l2 M, MSh.p7 M, MSh.o3 M, MSh.l3 M, MSh.p8 M, MSh.o4 M, MSh.l4 M, MSh.p9 M, MSh.o5 M, MSh.l5 M, MSh.p10 M, MSh.o6 M, MSh.l6 M, MSh.p24 M, MSh.o7 M, MSh.l7 M, MSh.p25 M, MSh.o8 M, MSh.l8 M, MSh.p26 M, MSh.o9 M, MSh.l9 M, MSh.p32 M, MSh.o10 M, MSh.l10 M, MSh.p33 M, MSh.o11 M, MSh.l11 M, MSh.p35 M, MSh.o12 M, MSh.l12 M, MSh.p36 M, MSh.o13 M, MSh.l13 M, MSh.p37 M, MSh.o14 M, MSh.l14 M, MSh.p38 M, MSh.o15 M, MSh.l15 M, MSh.p39 M, MSh.o16 M, MSh.l16 M, MSh.p42 M, MSh.o17 M, MSh.l17 M, MSh.p43 M, MSh.o18 M, MSh.l18 M, MSh.p44 M, MSh.o19 M, MSh.l19 M, MSh.p45 M, MSh.o20 M, MSh.l20 M, MSh.p46 M, MSh.o21 M, MSh.l21 M, MSh.p47 M, MSh.o22 M, MSh.l22 M, MSh.p50 M, MSh.o23 M, MSh.l23 M, MSh.p51 M, MSh.o24 M, MSh.l24 M, MSh.p52 M, MSh.o25 M, MSh.l25 M, -Int.reduceToNat, -Int32.reduceToNatClampNeg, il0, il1, il2, il3, il4, il5, il6, il7, il8, il9, il10, il11, il12, il13, il14, il15, il16, il17, il18, il19, il20, il21, il22, il23, il24, il25, il26, il27, il28, il29, il30, il31, il32, il35, il36, il38, il40, il42, il43, il44, il45, il46, il47, il48, il49, il50, il51, il52, il57, il59, il60, il63, il64, il75, il80, il95, il96, il97, il98, il99, il100, il120, il122, il123, il127, il128, il135, il167, il175, il225, il249, il250, il255, il256, il360, il370, il384, il600, il700, il740, il900, il940, il1024, il1600, il4800, il64000, il125000, il262143, il1000000000, iI_toInt, iI_add, iI_sub, iI_mul, iI_neg, iI_lt, iI_le, iI_eq, iI_n, iI_in, iI_div, iI_mod, iI_shm, iI_and1, iI_and7, iI_and63, iI_shr3, iI_shr6, rd_I, ob, Option.some.injEq, exists_eq_left', exists_eq_left, true_and, and_true, fqI, fqJ, eq_self, true_or, or_true, bP_0, bP_0i, npP, bP_1i, bP_b, not_true_eq_false, not_false_eq_true, false_implies, true_implies, implies_true, Classical.not_not, and_self]
  refine ⟨fun u => by omega, fun _ => m_putAt M hr8.1 (by omega) vi.1 fun g1 f1 r1 => ?_⟩
  have M1 := M.gr f1.gr
  have e99 : rd g1 99 = ptA t r (S.2.1 i) := by
    rw [r1]
    unfold ptA
    funext j
    by_cases c0 : j = 3 * r
    · rw [c0, tr3_0, tr3_0]
    · by_cases c1 : j = 3 * r + 1
      · rw [c1, tr3_1, tr3_1]
      · by_cases c2 : j = 3 * r + 2
        · rw [c2, tr3_2, tr3_2]
        · rw [tr3_n (by omega), tr3_n (by omega)]; exact t99 j (by omega)
  have d94 : rd g1 94 = s := by rw [f1.row (by simp)]; exact s94
  have d100 : rd g1 100 = z := by rw [f1.row (by simp)]; exact z10
  have out : ∀ {g}, Fr [99] [] [] h g → (∀ j, j < 3 * r ∨ 3 * r + 2 < j → rd g 99 j = t j) → MA1 h0 g s t z r S := fun {g} f u => ⟨M.gr f.gr, FF.trans (f.mono (by simp) (by simp) (by simp)), by rw [f.row (by simp)]; exact s94, by rw [f.row (by simp)]; exact z10, u, P.cg (f.row (by simp)) (f.row (by simp)) (f.row (by simp)) (f.row (by simp))⟩
  have ptn : ∀ j, j < 3 * r ∨ 3 * r + 2 < j → ptA t r (S.2.1 i) j = t j := fun j hj => by unfold ptA; exact tr3_n hj
  refine ⟨M1.o0, m_moves M1 (by rw [d94]; exact gs.1) hr8.1 (by rw [d94]; exact hr8.2) ho.1 (by omega) hh.1 hh.2 (by rw [d94, e99]; exact fun o o0 o1 => (vi.2 o o0 o1).1.P1) (by rw [d94, d100]; exact hZ) (by rw [e99, d100]; exact in8_of n0 n1 (vi.2 r hr8.1 hr8.2).2.1) (fun g2 y0 f2 r2 => ?_) (fun g2 y0 f2 r2 => ?_)⟩
  · rw [d94, d100, e99] at y0 r2
    rw [ite_t y0] at nxe
    have M2 := M1.gr f2.gr
    obtain ⟨V2, Sp, _⟩ := VT.cand vi.2 (hZ r hr8.1 hr8.2) n0 n1 hr8.1 hr8.2 y0
    have vn := nxA_V (hr := hr) (a := 5 * r + how) (hZ r hr8.1 hr8.2) n0 n1 hr8.1 hr8.2 vi (by rw [nxe]; obtain ⟨⟨a1, a2⟩, ⟨b1, b2⟩, ⟨c1, c2⟩, -⟩ := Sp; unfold plc; omega)
    rw [nxe] at vn
    have cn : ∀ j, j < 3 * r ∨ 3 * r + 2 < j → rd g2 99 j = t j := fun j hj => by
      rw [r2, pt_cand Sp]; unfold ptA; exact tr3_n hj
    have A2 := out (f1.trans f2) cn
    refine ⟨fun _ => ⟨M2.o0, (m_place M2 hr8.1 (by omega)).mpr ?_⟩, fun u => absurd (show iI 0 ≤ iI 0 by rw [iI_le (by omega) (by omega) (by omega) (by omega)]; omega) u⟩
    rw [r2]
    generalize hw : plc (candT s (ptA t r (S.2.1 i)) z r how) r = w at nxe vn
    obtain ⟨vb, _⟩ := vn
    have P2 := A2.P
    have rw9 := rd_bd g2 109 w
    have ri : rd g2 109 (S.2.1 i) = dpt S.2.2.1 i := P2.rg i hi.1 hi.2
    have db := dpt_bd I.fg i.toNat i (by omega) hi.1 hi.2
    simp (disch := omega) only [MSh.o0 M2, MSh.p1 M2, MSh.o1 M2, MSh.l1 M2, MSh.p6 M2, MSh.o2 M2, MSh.l2 M2, MSh.p7 M2, MSh.o3 M2, MSh.l3 M2, MSh.p8 M2, MSh.o4 M2, MSh.l4 M2, MSh.p9 M2, MSh.o5 M2, MSh.l5 M2, MSh.p10 M2, MSh.o6 M2, MSh.l6 M2, MSh.p24 M2, MSh.o7 M2, MSh.l7 M2, MSh.p25 M2, MSh.o8 M2, MSh.l8 M2, MSh.p26 M2, MSh.o9 M2, MSh.l9 M2, MSh.p32 M2, MSh.o10 M2, MSh.l10 M2, MSh.p33 M2, MSh.o11 M2, MSh.l11 M2, MSh.p35 M2, MSh.o12 M2, MSh.l12 M2, MSh.p36 M2, MSh.o13 M2, MSh.l13 M2, MSh.p37 M2, MSh.o14 M2, MSh.l14 M2, MSh.p38 M2, MSh.o15 M2, MSh.l15 M2, MSh.p39 M2, MSh.o16 M2, MSh.l16 M2, MSh.p42 M2, MSh.o17 M2, MSh.l17 M2, MSh.p43 M2, MSh.o18 M2, MSh.l18 M2, MSh.p44 M2, MSh.o19 M2, MSh.l19 M2, MSh.p45 M2, MSh.o20 M2, MSh.l20 M2, MSh.p46 M2, MSh.o21 M2, MSh.l21 M2, MSh.p47 M2, MSh.o22 M2, MSh.l22 M2, MSh.p50 M2, MSh.o23 M2, MSh.l23 M2, MSh.p51 M2, MSh.o24 M2, MSh.l24 M2, MSh.p52 M2, MSh.o25 M2, MSh.l25 M2, ri, -Int.reduceToNat, -Int32.reduceToNatClampNeg, il0, il1, il2, il3, il4, il5, il6, il7, il8, il9, il10, il11, il12, il13, il14, il15, il16, il17, il18, il19, il20, il21, il22, il23, il24, il25, il26, il27, il28, il29, il30, il31, il32, il35, il36, il38, il40, il42, il43, il44, il45, il46, il47, il48, il49, il50, il51, il52, il57, il59, il60, il63, il64, il75, il80, il95, il96, il97, il98, il99, il100, il120, il122, il123, il127, il128, il135, il167, il175, il225, il249, il250, il255, il256, il360, il370, il384, il600, il700, il740, il900, il940, il1024, il1600, il4800, il64000, il125000, il262143, il1000000000, iI_toInt, iI_add, iI_sub, iI_mul, iI_neg, iI_lt, iI_le, iI_eq, iI_n, iI_in, iI_div, iI_mod, iI_shm, iI_and1, iI_and7, iI_and63, iI_shr3, iI_shr6, rd_I, ob, Option.some.injEq, exists_eq_left', exists_eq_left, true_and, and_true, fqI, fqJ, eq_self, true_or, or_true, bP_0, bP_0i, npP, bP_1i, bP_b, not_true_eq_false, not_false_eq_true, false_implies, true_implies, implies_true, Classical.not_not, and_self]
    refine ⟨fun neg => ?_, fun nn => ?_⟩
    · have ns : ¬ seenB S w := fun ⟨j, j0, j1, j2⟩ => by
        have := P2.rg j j0 j1
        rw [j2] at this
        have db := dpt_bd I.fg j.toNat j (by omega) j0 j1
        omega
      have eS : bAct (nxA s t z r hr) i (5 * r + how) S = (S.1 + 1, updT S.2.1 S.1 w, updT S.2.2.1 S.1 i, updT S.2.2.2 S.1 (5 * r + how)) := by
        unfold bAct
        rw [nxe, ite_t ⟨vb.1, ns⟩]
      have h128 : S.1 < 128 := by
        have B2 := bAct_I (nx := nxA s t z r hr) (i := i) (a := 5 * r + how) I hi.1 hi.2 (by omega) (fun _ => nxA_V (hZ r hr8.1 hr8.2) n0 n1 hr8.1 hr8.2 vi (by rw [nxe]; omega))
        have := B2.le (M := 128) (fun v hv => hv.1)
        rw [eS] at this
        have : S.1 + 1 ≤ 128 := this
        omega
      rw [eS] at K
      have t0 := I.1
      intro g3 w3
      obtain ⟨f3, r3⟩ := wI (i := w) (by omega) (by omega) (by omega) w3
      have M3 := M2.gr f3.gr
      simp (disch := omega) only [MSh.o0 M3, MSh.p1 M3, MSh.o1 M3, MSh.l1 M3, MSh.p6 M3, MSh.o2 M3, MSh.l2 M3, MSh.p7 M3, MSh.o3 M3, MSh.l3 M3, MSh.p8 M3, MSh.o4 M3, MSh.l4 M3, MSh.p9 M3, MSh.o5 M3, MSh.l5 M3, MSh.p10 M3, MSh.o6 M3, MSh.l6 M3, MSh.p24 M3, MSh.o7 M3, MSh.l7 M3, MSh.p25 M3, MSh.o8 M3, MSh.l8 M3, MSh.p26 M3, MSh.o9 M3, MSh.l9 M3, MSh.p32 M3, MSh.o10 M3, MSh.l10 M3, MSh.p33 M3, MSh.o11 M3, MSh.l11 M3, MSh.p35 M3, MSh.o12 M3, MSh.l12 M3, MSh.p36 M3, MSh.o13 M3, MSh.l13 M3, MSh.p37 M3, MSh.o14 M3, MSh.l14 M3, MSh.p38 M3, MSh.o15 M3, MSh.l15 M3, MSh.p39 M3, MSh.o16 M3, MSh.l16 M3, MSh.p42 M3, MSh.o17 M3, MSh.l17 M3, MSh.p43 M3, MSh.o18 M3, MSh.l18 M3, MSh.p44 M3, MSh.o19 M3, MSh.l19 M3, MSh.p45 M3, MSh.o20 M3, MSh.l20 M3, MSh.p46 M3, MSh.o21 M3, MSh.l21 M3, MSh.p47 M3, MSh.o22 M3, MSh.l22 M3, MSh.p50 M3, MSh.o23 M3, MSh.l23 M3, MSh.p51 M3, MSh.o24 M3, MSh.l24 M3, MSh.p52 M3, MSh.o25 M3, MSh.l25 M3, -Int.reduceToNat, -Int32.reduceToNatClampNeg, il0, il1, il2, il3, il4, il5, il6, il7, il8, il9, il10, il11, il12, il13, il14, il15, il16, il17, il18, il19, il20, il21, il22, il23, il24, il25, il26, il27, il28, il29, il30, il31, il32, il35, il36, il38, il40, il42, il43, il44, il45, il46, il47, il48, il49, il50, il51, il52, il57, il59, il60, il63, il64, il75, il80, il95, il96, il97, il98, il99, il100, il120, il122, il123, il127, il128, il135, il167, il175, il225, il249, il250, il255, il256, il360, il370, il384, il600, il700, il740, il900, il940, il1024, il1600, il4800, il64000, il125000, il262143, il1000000000, iI_toInt, iI_add, iI_sub, iI_mul, iI_neg, iI_lt, iI_le, iI_eq, iI_n, iI_in, iI_div, iI_mod, iI_shm, iI_and1, iI_and7, iI_and63, iI_shr3, iI_shr6, rd_I, ob, Option.some.injEq, exists_eq_left', exists_eq_left, true_and, and_true, fqI, fqJ, eq_self, true_or, or_true, bP_0, bP_0i, npP, bP_1i, bP_b, not_true_eq_false, not_false_eq_true, false_implies, true_implies, implies_true, Classical.not_not, and_self]
      intro g4 w4
      obtain ⟨f4, r4⟩ := wI (i := w) (by omega) (by omega) (by omega) w4
      have M4 := M3.gr f4.gr
      simp (disch := omega) only [MSh.o0 M4, MSh.p1 M4, MSh.o1 M4, MSh.l1 M4, MSh.p6 M4, MSh.o2 M4, MSh.l2 M4, MSh.p7 M4, MSh.o3 M4, MSh.l3 M4, MSh.p8 M4, MSh.o4 M4, MSh.l4 M4, MSh.p9 M4, MSh.o5 M4, MSh.l5 M4, MSh.p10 M4, MSh.o6 M4, MSh.l6 M4, MSh.p24 M4, MSh.o7 M4, MSh.l7 M4, MSh.p25 M4, MSh.o8 M4, MSh.l8 M4, MSh.p26 M4, MSh.o9 M4, MSh.l9 M4, MSh.p32 M4, MSh.o10 M4, MSh.l10 M4, MSh.p33 M4, MSh.o11 M4, MSh.l11 M4, MSh.p35 M4, MSh.o12 M4, MSh.l12 M4, MSh.p36 M4, MSh.o13 M4, MSh.l13 M4, MSh.p37 M4, MSh.o14 M4, MSh.l14 M4, MSh.p38 M4, MSh.o15 M4, MSh.l15 M4, MSh.p39 M4, MSh.o16 M4, MSh.l16 M4, MSh.p42 M4, MSh.o17 M4, MSh.l17 M4, MSh.p43 M4, MSh.o18 M4, MSh.l18 M4, MSh.p44 M4, MSh.o19 M4, MSh.l19 M4, MSh.p45 M4, MSh.o20 M4, MSh.l20 M4, MSh.p46 M4, MSh.o21 M4, MSh.l21 M4, MSh.p47 M4, MSh.o22 M4, MSh.l22 M4, MSh.p50 M4, MSh.o23 M4, MSh.l23 M4, MSh.p51 M4, MSh.o24 M4, MSh.l24 M4, MSh.p52 M4, MSh.o25 M4, MSh.l25 M4, -Int.reduceToNat, -Int32.reduceToNatClampNeg, il0, il1, il2, il3, il4, il5, il6, il7, il8, il9, il10, il11, il12, il13, il14, il15, il16, il17, il18, il19, il20, il21, il22, il23, il24, il25, il26, il27, il28, il29, il30, il31, il32, il35, il36, il38, il40, il42, il43, il44, il45, il46, il47, il48, il49, il50, il51, il52, il57, il59, il60, il63, il64, il75, il80, il95, il96, il97, il98, il99, il100, il120, il122, il123, il127, il128, il135, il167, il175, il225, il249, il250, il255, il256, il360, il370, il384, il600, il700, il740, il900, il940, il1024, il1600, il4800, il64000, il125000, il262143, il1000000000, iI_toInt, iI_add, iI_sub, iI_mul, iI_neg, iI_lt, iI_le, iI_eq, iI_n, iI_in, iI_div, iI_mod, iI_shm, iI_and1, iI_and7, iI_and63, iI_shr3, iI_shr6, rd_I, ob, Option.some.injEq, exists_eq_left', exists_eq_left, true_and, and_true, fqI, fqJ, eq_self, true_or, or_true, bP_0, bP_0i, npP, bP_1i, bP_b, not_true_eq_false, not_false_eq_true, false_implies, true_implies, implies_true, Classical.not_not, and_self]
      intro g5 w5
      obtain ⟨f5, r5⟩ := wI (i := w) (by omega) (by omega) (by omega) w5
      have M5 := M4.gr f5.gr
      simp (disch := omega) only [MSh.o0 M5, MSh.p1 M5, MSh.o1 M5, MSh.l1 M5, MSh.p6 M5, MSh.o2 M5, MSh.l2 M5, MSh.p7 M5, MSh.o3 M5, MSh.l3 M5, MSh.p8 M5, MSh.o4 M5, MSh.l4 M5, MSh.p9 M5, MSh.o5 M5, MSh.l5 M5, MSh.p10 M5, MSh.o6 M5, MSh.l6 M5, MSh.p24 M5, MSh.o7 M5, MSh.l7 M5, MSh.p25 M5, MSh.o8 M5, MSh.l8 M5, MSh.p26 M5, MSh.o9 M5, MSh.l9 M5, MSh.p32 M5, MSh.o10 M5, MSh.l10 M5, MSh.p33 M5, MSh.o11 M5, MSh.l11 M5, MSh.p35 M5, MSh.o12 M5, MSh.l12 M5, MSh.p36 M5, MSh.o13 M5, MSh.l13 M5, MSh.p37 M5, MSh.o14 M5, MSh.l14 M5, MSh.p38 M5, MSh.o15 M5, MSh.l15 M5, MSh.p39 M5, MSh.o16 M5, MSh.l16 M5, MSh.p42 M5, MSh.o17 M5, MSh.l17 M5, MSh.p43 M5, MSh.o18 M5, MSh.l18 M5, MSh.p44 M5, MSh.o19 M5, MSh.l19 M5, MSh.p45 M5, MSh.o20 M5, MSh.l20 M5, MSh.p46 M5, MSh.o21 M5, MSh.l21 M5, MSh.p47 M5, MSh.o22 M5, MSh.l22 M5, MSh.p50 M5, MSh.o23 M5, MSh.l23 M5, MSh.p51 M5, MSh.o24 M5, MSh.l24 M5, MSh.p52 M5, MSh.o25 M5, MSh.l25 M5, -Int.reduceToNat, -Int32.reduceToNatClampNeg, il0, il1, il2, il3, il4, il5, il6, il7, il8, il9, il10, il11, il12, il13, il14, il15, il16, il17, il18, il19, il20, il21, il22, il23, il24, il25, il26, il27, il28, il29, il30, il31, il32, il35, il36, il38, il40, il42, il43, il44, il45, il46, il47, il48, il49, il50, il51, il52, il57, il59, il60, il63, il64, il75, il80, il95, il96, il97, il98, il99, il100, il120, il122, il123, il127, il128, il135, il167, il175, il225, il249, il250, il255, il256, il360, il370, il384, il600, il700, il740, il900, il940, il1024, il1600, il4800, il64000, il125000, il262143, il1000000000, iI_toInt, iI_add, iI_sub, iI_mul, iI_neg, iI_lt, iI_le, iI_eq, iI_n, iI_in, iI_div, iI_mod, iI_shm, iI_and1, iI_and7, iI_and63, iI_shr3, iI_shr6, rd_I, ob, Option.some.injEq, exists_eq_left', exists_eq_left, true_and, and_true, fqI, fqJ, eq_self, true_or, or_true, bP_0, bP_0i, npP, bP_1i, bP_b, not_true_eq_false, not_false_eq_true, false_implies, true_implies, implies_true, Classical.not_not, and_self]
      intro g6 w6
      obtain ⟨f6, r6⟩ := wI (i := S.1) (by omega) (by omega) (by omega) w6
      have F6 : Fr [109, 110, 111, 112] [] [] g2 g6 := (f3.mono (by simp) (by simp) (by simp)).trans ((f4.mono (by simp) (by simp) (by simp)).trans ((f5.mono (by simp) (by simp) (by simp)).trans (f6.mono (by simp) (by simp) (by simp))))
      refine K g6 ⟨M5.gr f6.gr, A2.FF.trans (F6.mono (by simp) (by simp) (by simp)), by rw [F6.row (by simp)]; exact A2.s94, by rw [F6.row (by simp)]; exact A2.z10, fun j hj => by rw [F6.row (by simp)]; exact A2.t99 j hj, ?_⟩
      refine P2.push I hi.1 hi.2 ns ?_ ?_ ?_ ?_
      · rw [f6.row (by simp), f5.row (by simp), f4.row (by simp), r3]
      · rw [f6.row (by simp), f5.row (by simp), r4, f3.row (by simp)]
      · rw [f6.row (by simp), r5, f4.row (by simp), f3.row (by simp)]
        congr 1
        unfold dcd; omega
      · rw [r6, f5.row (by simp), f4.row (by simp), f3.row (by simp)]
    · have sn : seenB S w := Classical.byContradiction fun q => by
        have := P2.rn w vb.1 vb.2 q
        omega
      have eS : bAct (nxA s t z r hr) i (5 * r + how) S = S := by
        unfold bAct
        rw [nxe, ite_f (fun u => u.2 sn)]
      rw [eS] at K
      exact K g2 A2
  · rw [d94, d100, e99] at y0
    rw [d94, d100, e99]
    rw [ite_f y0] at nxe
    have wb := why_bd (s := s) (t := ptA t r (S.2.1 i)) (z := z) (r := r) (how := how) (hr := hr)
    have eS : bAct (nxA s t z r hr) i (5 * r + how) S = S := by
      unfold bAct
      rw [nxe, ite_f (fun u => by omega)]
    rw [eS] at K
    refine ⟨fun u => by rw [iI_le (by omega) (by omega) (by omega) (by omega)] at u; omega, fun _ => K g2 (out (f1.trans f2) fun j hj => by rw [r2, e99]; exact ptn j hj)⟩
/-- where the model's search for ALONE ends -/
noncomputable def runM (s : Int → Int) (r hr : Int) : BS := bRun (nxA s (tS s) (zC s) r hr) (5 * r) 5 (fun _ _ => False) 128 0 (bGo (plc (tS s) r))
theorem m_aloneBack (M : MSh h) (P : MRp h 109 110 111 112 128 S) (I : BI (VA s t z r) (5 * r) (5 * r + 5) S) (hr8 : 0 ≤ r ∧ r < 8) (h0' : 0 ≤ pl) (h1' : pl < S.1) (h40 : rd h 92 40 = dpt S.2.2.1 pl) (K : ∀ h', Fr [108] [] [] h h' → (∀ k : Nat, (k : Int) < dpt S.2.2.1 pl → rd h' 108 (dpt S.2.2.1 pl - 1 - k) = dcd (S.2.2.2 (anc S.2.2.1 k pl))) → post h' (iI (dpt S.2.2.1 pl))) : ∃ k, wl_X12_alone_288 post k h 92 (iI (S.2.1 pl)) (iI (dpt S.2.2.1 pl - 1)) := by
  have db := dpt_bd I.fg pl.toNat pl (by omega) h0' h1'
  have t128 := I.le (M := 128) (fun v hv => hv.1)
  refine (lf_for (W := fun k (b : AH × Int) c => wl_X12_alone_288 post k b.1 92 (iI (S.2.1 b.2)) (iI (dpt S.2.2.1 pl - 1 - c))) (lo := 0) (hi := dpt S.2.2.1 pl) (fun c b => Fr [108] [] [] h b.1 ∧ b.2 = anc S.2.2.1 c.toNat pl ∧ ∀ k : Nat, (k : Int) < c → rd b.1 108 (dpt S.2.2.1 pl - 1 - k) = dcd (S.2.2.2 (anc S.2.2.1 k pl))) db.1 (fun k b c c0 c1 J nx => ?_) (fun k b J => ?_) (h, pl) ⟨(Fr.refl h).mono (by simp) (by simp) (by simp), rfl, fun k hk => by omega⟩).imp fun k hk => by
    have e : iI (dpt S.2.2.1 pl - 1 - 0) = iI (dpt S.2.2.1 pl - 1) := by congr 1; omega
    have hk : wl_X12_alone_288 post k h 92 (iI (S.2.1 pl)) (iI (dpt S.2.2.1 pl - 1 - 0)) := hk
    rw [e] at hk
    exact hk
  · obtain ⟨g, at'⟩ := b
    obtain ⟨Fg, ea, J3⟩ := J
    have ea : at' = anc S.2.2.1 c.toNat pl := ea
    have Fg : Fr [108] [] [] h g := Fg
    subst ea
    show wb_X12_alone_288 (wl_X12_alone_288 post k) g 92 (iI (S.2.1 (anc S.2.2.1 c.toNat pl))) (iI (dpt S.2.2.1 pl - 1 - c)) post
    have an := anc_d I.fg c.toNat pl h0' h1' (by omega)
    have ap : 0 < anc S.2.2.1 c.toNat pl := by
      by_cases zz : anc S.2.2.1 c.toNat pl ≤ 0
      · rw [dpt_0 zz] at an; omega
      · omega
    have Mg := M.gr Fg.gr
    have vi := (I.2.1 _ an.1.1 an.1.2).1
    have e111 : rd g 111 (S.2.1 (anc S.2.2.1 c.toNat pl)) = dcd (S.2.2.2 (anc S.2.2.1 c.toNat pl)) := by rw [Fg.row (by simp)]; exact P.bb _ ap an.1.2
    have bbd := I.2.2.2.2 _ ap an.1.2
    have dbd : 0 ≤ dcd (S.2.2.2 (anc S.2.2.1 c.toNat pl)) ∧ dcd (S.2.2.2 (anc S.2.2.1 c.toNat pl)) < 1000 := by unfold dcd; omega
    unfold wb_X12_alone_288
    simp (disch := omega) only [MSh.o0 Mg, MSh.p1 Mg, MSh.o1 Mg, MSh.l1 Mg, MSh.p6 Mg, MSh.o2 Mg, MSh.l2 Mg, MSh.p7 Mg, MSh.o3 Mg, MSh.l3 Mg, MSh.p8 Mg, MSh.o4 Mg, MSh.l4 Mg, MSh.p9 Mg, MSh.o5 Mg, MSh.l5 Mg, MSh.p10 Mg, MSh.o6 Mg, MSh.l6 Mg, MSh.p24 Mg, MSh.o7 Mg, MSh.l7 Mg, MSh.p25 Mg, MSh.o8 Mg, MSh.l8 Mg, MSh.p26 Mg, MSh.o9 Mg, MSh.l9 Mg, MSh.p32 Mg, MSh.o10 Mg, MSh.l10 Mg, MSh.p33 Mg, MSh.o11 Mg, MSh.l11 Mg, MSh.p35 Mg, MSh.o12 Mg, MSh.l12 Mg, MSh.p36 Mg, MSh.o13 Mg, MSh.l13 Mg, MSh.p37 Mg, MSh.o14 Mg, MSh.l14 Mg, MSh.p38 Mg, MSh.o15 Mg, MSh.l15 Mg, MSh.p39 Mg, MSh.o16 Mg, MSh.l16 Mg, MSh.p42 Mg, MSh.o17 Mg, MSh.l17 Mg, MSh.p43 Mg, MSh.o18 Mg, MSh.l18 Mg, MSh.p44 Mg, MSh.o19 Mg, MSh.l19 Mg, MSh.p45 Mg, MSh.o20 Mg, MSh.l20 Mg, MSh.p46 Mg, MSh.o21 Mg, MSh.l21 Mg, MSh.p47 Mg, MSh.o22 Mg, MSh.l22 Mg, MSh.p50 Mg, MSh.o23 Mg, MSh.l23 Mg, MSh.p51 Mg, MSh.o24 Mg, MSh.l24 Mg, MSh.p52 Mg, MSh.o25 Mg, MSh.l25 Mg, e111, -Int.reduceToNat, -Int32.reduceToNatClampNeg, il0, il1, il2, il3, il4, il5, il6, il7, il8, il9, il10, il11, il12, il13, il14, il15, il16, il17, il18, il19, il20, il21, il22, il23, il24, il25, il26, il27, il28, il29, il30, il31, il32, il35, il36, il38, il40, il42, il43, il44, il45, il46, il47, il48, il49, il50, il51, il52, il57, il59, il60, il63, il64, il75, il80, il95, il96, il97, il98, il99, il100, il120, il122, il123, il127, il128, il135, il167, il175, il225, il249, il250, il255, il256, il360, il370, il384, il600, il700, il740, il900, il940, il1024, il1600, il4800, il64000, il125000, il262143, il1000000000, iI_toInt, iI_add, iI_sub, iI_mul, iI_neg, iI_lt, iI_le, iI_eq, iI_n, iI_in, iI_div, iI_mod, iI_shm, iI_and1, iI_and7, iI_and63, iI_shr3, iI_shr6, rd_I, ob, Option.some.injEq, exists_eq_left', exists_eq_left, true_and, and_true, fqI, fqJ, eq_self, true_or, or_true, bP_0, bP_0i, npP, bP_1i, bP_b, not_true_eq_false, not_false_eq_true, false_implies, true_implies, implies_true, Classical.not_not, and_self]
    refine ⟨fun u => by omega, fun _ => ?_⟩
    intro g2 w2
    obtain ⟨f2, r2⟩ := wI (i := dpt S.2.2.1 pl - 1 - c) (by omega) (by omega) (by omega) w2
    have M2 := Mg.gr f2.gr
    have e110 : rd g2 110 (S.2.1 (anc S.2.2.1 c.toNat pl)) = S.2.1 (S.2.2.1 (anc S.2.2.1 c.toNat pl)) := by rw [f2.row (by simp), Fg.row (by simp)]; exact P.cm _ ap an.1.2
    simp (disch := omega) only [MSh.o0 M2, MSh.p1 M2, MSh.o1 M2, MSh.l1 M2, MSh.p6 M2, MSh.o2 M2, MSh.l2 M2, MSh.p7 M2, MSh.o3 M2, MSh.l3 M2, MSh.p8 M2, MSh.o4 M2, MSh.l4 M2, MSh.p9 M2, MSh.o5 M2, MSh.l5 M2, MSh.p10 M2, MSh.o6 M2, MSh.l6 M2, MSh.p24 M2, MSh.o7 M2, MSh.l7 M2, MSh.p25 M2, MSh.o8 M2, MSh.l8 M2, MSh.p26 M2, MSh.o9 M2, MSh.l9 M2, MSh.p32 M2, MSh.o10 M2, MSh.l10 M2, MSh.p33 M2, MSh.o11 M2, MSh.l11 M2, MSh.p35 M2, MSh.o12 M2, MSh.l12 M2, MSh.p36 M2, MSh.o13 M2, MSh.l13 M2, MSh.p37 M2, MSh.o14 M2, MSh.l14 M2, MSh.p38 M2, MSh.o15 M2, MSh.l15 M2, MSh.p39 M2, MSh.o16 M2, MSh.l16 M2, MSh.p42 M2, MSh.o17 M2, MSh.l17 M2, MSh.p43 M2, MSh.o18 M2, MSh.l18 M2, MSh.p44 M2, MSh.o19 M2, MSh.l19 M2, MSh.p45 M2, MSh.o20 M2, MSh.l20 M2, MSh.p46 M2, MSh.o21 M2, MSh.l21 M2, MSh.p47 M2, MSh.o22 M2, MSh.l22 M2, MSh.p50 M2, MSh.o23 M2, MSh.l23 M2, MSh.p51 M2, MSh.o24 M2, MSh.l24 M2, MSh.p52 M2, MSh.o25 M2, MSh.l25 M2, e110, -Int.reduceToNat, -Int32.reduceToNatClampNeg, il0, il1, il2, il3, il4, il5, il6, il7, il8, il9, il10, il11, il12, il13, il14, il15, il16, il17, il18, il19, il20, il21, il22, il23, il24, il25, il26, il27, il28, il29, il30, il31, il32, il35, il36, il38, il40, il42, il43, il44, il45, il46, il47, il48, il49, il50, il51, il52, il57, il59, il60, il63, il64, il75, il80, il95, il96, il97, il98, il99, il100, il120, il122, il123, il127, il128, il135, il167, il175, il225, il249, il250, il255, il256, il360, il370, il384, il600, il700, il740, il900, il940, il1024, il1600, il4800, il64000, il125000, il262143, il1000000000, iI_toInt, iI_add, iI_sub, iI_mul, iI_neg, iI_lt, iI_le, iI_eq, iI_n, iI_in, iI_div, iI_mod, iI_shm, iI_and1, iI_and7, iI_and63, iI_shr3, iI_shr6, rd_I, ob, Option.some.injEq, exists_eq_left', exists_eq_left, true_and, and_true, fqI, fqJ, eq_self, true_or, or_true, bP_0, bP_0i, npP, bP_1i, bP_b, not_true_eq_false, not_false_eq_true, false_implies, true_implies, implies_true, Classical.not_not, and_self]
    rw [show dpt S.2.2.1 pl - 1 - c + -1 = dpt S.2.2.1 pl - 1 - (c + 1) by omega]
    refine nx (g2, S.2.2.1 (anc S.2.2.1 c.toNat pl)) ⟨Fg.trans f2, ?_, fun k hk => ?_⟩
    · show S.2.2.1 (anc S.2.2.1 c.toNat pl) = _
      rw [show (c + 1).toNat = c.toNat + 1 by omega, anc_s]
    · show rd g2 108 _ = _
      rw [r2]
      by_cases ck : (k : Int) = c
      · rw [show dpt S.2.2.1 pl - 1 - (k : Int) = dpt S.2.2.1 pl - 1 - c by omega, updT_s, show k = c.toNat by omega]
      · rw [updT_n (by omega)]; exact J3 k (by omega)
  · obtain ⟨g, at'⟩ := b
    obtain ⟨Fg, ea, J3⟩ := J
    have Fg : Fr [108] [] [] h g := Fg
    have Mg := M.gr Fg.gr
    have e40 : rd g 92 40 = dpt S.2.2.1 pl := by rw [Fg.row (by simp)]; exact h40
    show wb_X12_alone_288 (wl_X12_alone_288 post k) g 92 (iI (S.2.1 at')) (iI (dpt S.2.2.1 pl - 1 - dpt S.2.2.1 pl)) post
    unfold wb_X12_alone_288
    simp (disch := omega) only [MSh.o0 Mg, MSh.p1 Mg, MSh.o1 Mg, MSh.l1 Mg, MSh.p6 Mg, MSh.o2 Mg, MSh.l2 Mg, MSh.p7 Mg, MSh.o3 Mg, MSh.l3 Mg, MSh.p8 Mg, MSh.o4 Mg, MSh.l4 Mg, MSh.p9 Mg, MSh.o5 Mg, MSh.l5 Mg, MSh.p10 Mg, MSh.o6 Mg, MSh.l6 Mg, MSh.p24 Mg, MSh.o7 Mg, MSh.l7 Mg, MSh.p25 Mg, MSh.o8 Mg, MSh.l8 Mg, MSh.p26 Mg, MSh.o9 Mg, MSh.l9 Mg, MSh.p32 Mg, MSh.o10 Mg, MSh.l10 Mg, MSh.p33 Mg, MSh.o11 Mg, MSh.l11 Mg, MSh.p35 Mg, MSh.o12 Mg, MSh.l12 Mg, MSh.p36 Mg, MSh.o13 Mg, MSh.l13 Mg, MSh.p37 Mg, MSh.o14 Mg, MSh.l14 Mg, MSh.p38 Mg, MSh.o15 Mg, MSh.l15 Mg, MSh.p39 Mg, MSh.o16 Mg, MSh.l16 Mg, MSh.p42 Mg, MSh.o17 Mg, MSh.l17 Mg, MSh.p43 Mg, MSh.o18 Mg, MSh.l18 Mg, MSh.p44 Mg, MSh.o19 Mg, MSh.l19 Mg, MSh.p45 Mg, MSh.o20 Mg, MSh.l20 Mg, MSh.p46 Mg, MSh.o21 Mg, MSh.l21 Mg, MSh.p47 Mg, MSh.o22 Mg, MSh.l22 Mg, MSh.p50 Mg, MSh.o23 Mg, MSh.l23 Mg, MSh.p51 Mg, MSh.o24 Mg, MSh.l24 Mg, MSh.p52 Mg, MSh.o25 Mg, MSh.l25 Mg, fd0, fd1, fd2, fd3, fd4, fd5, fd6, fd7, fd8, fd9, fd10, fd11, fd12, fd13, fd14, fd15, fd16, fd17, fd18, fd19, fd20, fd21, fd22, fd23, fd24, fd25, fd26, fd27, fd28, fd29, fd30, fd31, fd32, fd33, fd34, fd35, fd36, fd37, fd38, fd39, fd40, fd41, fd42, fd43, fd44, fd45, fd46, fd47, fd48, fd49, fd50, fd51, fd52, e40, -Int.reduceToNat, -Int32.reduceToNatClampNeg, il0, il1, il2, il3, il4, il5, il6, il7, il8, il9, il10, il11, il12, il13, il14, il15, il16, il17, il18, il19, il20, il21, il22, il23, il24, il25, il26, il27, il28, il29, il30, il31, il32, il35, il36, il38, il40, il42, il43, il44, il45, il46, il47, il48, il49, il50, il51, il52, il57, il59, il60, il63, il64, il75, il80, il95, il96, il97, il98, il99, il100, il120, il122, il123, il127, il128, il135, il167, il175, il225, il249, il250, il255, il256, il360, il370, il384, il600, il700, il740, il900, il940, il1024, il1600, il4800, il64000, il125000, il262143, il1000000000, iI_toInt, iI_add, iI_sub, iI_mul, iI_neg, iI_lt, iI_le, iI_eq, iI_n, iI_in, iI_div, iI_mod, iI_shm, iI_and1, iI_and7, iI_and63, iI_shr3, iI_shr6, rd_I, ob, Option.some.injEq, exists_eq_left', exists_eq_left, true_and, and_true, fqI, fqJ, eq_self, true_or, or_true, bP_0, bP_0i, npP, bP_1i, bP_b, not_true_eq_false, not_false_eq_true, false_implies, true_implies, implies_true, Classical.not_not, and_self]
    exact ⟨fun _ => K g Fg J3, fun u => by omega⟩
theorem m_aloneLoop {R0 : BS} (gs : GS s) (e : EZ z s) (hr8 : 0 ≤ r ∧ r < s 2) (hh : 0 ≤ hr ∧ hr < 24) (hg : 0 ≤ goal ∧ goal < 128)
    (K0 : ∀ h' S, MA1 h0 h' s t z r S → BI (VA s t z r) (5 * r) (5 * r + 5) S → S = R0 → ¬ seenB S goal → post h' (iI (-1)))
    (K1 : ∀ h' S pl, MA1 h0 h' s t z r S → BI (VA s t z r) (5 * r) (5 * r + 5) S → S = R0 → 0 ≤ pl → pl < S.1 → S.2.1 pl = goal → ∀ g, Fr [92, 108] [] [] h' g → rd g 92 40 = dpt S.2.2.1 pl → (∀ j, j ≠ 40 → rd g 92 j = rd h' 92 j) → (∀ k : Nat, (k : Int) < dpt S.2.2.1 pl → rd g 108 (dpt S.2.2.1 pl - 1 - k) = dcd (S.2.2.2 (anc S.2.2.1 k pl))) → post g (iI (dpt S.2.2.1 pl))) :
    ∀ (dd : Nat) (i : Int) (S : BS) (h : AH), MA1 h0 h s t z r S → BI (VA s t z r) (5 * r) (5 * r + 5) S → i + dd = 128 → 0 ≤ i → R0 = bRun (nxA s t z r hr) (5 * r) 5 (fun _ _ => False) dd i S → wl_X12_alone_123 post (dd + 1) h 92 (iI r) (iI hr) (iI goal) (iI S.1) (iI i) := by
  have n2 : s 2 ≤ 8 := gs.1.2.2.2.1
  have n0 : s 0 ≤ 8 := gs.1.2.1
  have n1 : s 1 ≤ 8 := gs.1.2.2.1
  have hZ := Z1.of e gs.2.1 hr8.1 hr8.2 n2
  have endd : ∀ {W : AH → Nat → Int32 → Int32 → Int32 → Int32 → Int32 → Prop} (i : Int) (S : BS) (h : AH), MA1 h0 h s t z r S → BI (VA s t z r) (5 * r) (5 * r + 5) S → S = R0 → S.1 ≤ i → 0 ≤ i → i ≤ 128 → wb_X12_alone_123 W h 92 (iI r) (iI hr) (iI goal) (iI S.1) (iI i) post := by
    intro W i S h A I eS ti i0 i1
    have M := A.MM
    have t128 := I.le (M := 128) (fun v hv => hv.1)
    have t1 := I.1
    have rb := rd_bd h 109 goal
    unfold wb_X12_alone_123
    simp (disch := omega) only [MSh.o0 M, MSh.p1 M, MSh.o1 M, MSh.l1 M, MSh.p6 M, MSh.o2 M, MSh.l2 M, MSh.p7 M, MSh.o3 M, MSh.l3 M, MSh.p8 M, MSh.o4 M, MSh.l4 M, MSh.p9 M, MSh.o5 M, MSh.l5 M, MSh.p10 M, MSh.o6 M, MSh.l6 M, MSh.p24 M, MSh.o7 M, MSh.l7 M, MSh.p25 M, MSh.o8 M, MSh.l8 M, MSh.p26 M, MSh.o9 M, MSh.l9 M, MSh.p32 M, MSh.o10 M, MSh.l10 M, MSh.p33 M, MSh.o11 M, MSh.l11 M, MSh.p35 M, MSh.o12 M, MSh.l12 M, MSh.p36 M, MSh.o13 M, MSh.l13 M, MSh.p37 M, MSh.o14 M, MSh.l14 M, MSh.p38 M, MSh.o15 M, MSh.l15 M, MSh.p39 M, MSh.o16 M, MSh.l16 M, MSh.p42 M, MSh.o17 M, MSh.l17 M, MSh.p43 M, MSh.o18 M, MSh.l18 M, MSh.p44 M, MSh.o19 M, MSh.l19 M, MSh.p45 M, MSh.o20 M, MSh.l20 M, MSh.p46 M, MSh.o21 M, MSh.l21 M, MSh.p47 M, MSh.o22 M, MSh.l22 M, MSh.p50 M, MSh.o23 M, MSh.l23 M, MSh.p51 M, MSh.o24 M, MSh.l24 M, MSh.p52 M, MSh.o25 M, MSh.l25 M, fd0, fd1, fd2, fd3, fd4, fd5, fd6, fd7, fd8, fd9, fd10, fd11, fd12, fd13, fd14, fd15, fd16, fd17, fd18, fd19, fd20, fd21, fd22, fd23, fd24, fd25, fd26, fd27, fd28, fd29, fd30, fd31, fd32, fd33, fd34, fd35, fd36, fd37, fd38, fd39, fd40, fd41, fd42, fd43, fd44, fd45, fd46, fd47, fd48, fd49, fd50, fd51, fd52, -Int.reduceToNat, -Int32.reduceToNatClampNeg, il0, il1, il2, il3, il4, il5, il6, il7, il8, il9, il10, il11, il12, il13, il14, il15, il16, il17, il18, il19, il20, il21, il22, il23, il24, il25, il26, il27, il28, il29, il30, il31, il32, il35, il36, il38, il40, il42, il43, il44, il45, il46, il47, il48, il49, il50, il51, il52, il57, il59, il60, il63, il64, il75, il80, il95, il96, il97, il98, il99, il100, il120, il122, il123, il127, il128, il135, il167, il175, il225, il249, il250, il255, il256, il360, il370, il384, il600, il700, il740, il900, il940, il1024, il1600, il4800, il64000, il125000, il262143, il1000000000, iI_toInt, iI_add, iI_sub, iI_mul, iI_neg, iI_lt, iI_le, iI_eq, iI_n, iI_in, iI_div, iI_mod, iI_shm, iI_and1, iI_and7, iI_and63, iI_shr3, iI_shr6, rd_I, ob, Option.some.injEq, exists_eq_left', exists_eq_left, true_and, and_true, fqI, fqJ, eq_self, true_or, or_true, bP_0, bP_0i, npP, bP_1i, bP_b, not_true_eq_false, not_false_eq_true, false_implies, true_implies, implies_true, Classical.not_not, and_self]
    refine ⟨fun _ => ⟨fun nn => ?_, fun ng => ?_⟩, fun u => by omega⟩
    · have sn : seenB S goal := Classical.byContradiction fun q => by
        have := A.P.rn goal hg.1 hg.2 q
        omega
      obtain ⟨pl, p0, p1, pg⟩ := sn
      have er := A.P.rg pl p0 p1
      rw [pg] at er
      rw [er]
      have db := dpt_bd I.fg pl.toNat pl (by omega) p0 p1
      intro g1 w1
      obtain ⟨f1, r1⟩ := wI (i := 40) (by omega) (by omega) (by omega) w1
      have M1 := M.gr f1.gr
      have e40 : rd g1 92 40 = dpt S.2.2.1 pl := by rw [r1, updT_s]
      simp (disch := omega) only [MSh.o0 M1, MSh.p1 M1, MSh.o1 M1, MSh.l1 M1, MSh.p6 M1, MSh.o2 M1, MSh.l2 M1, MSh.p7 M1, MSh.o3 M1, MSh.l3 M1, MSh.p8 M1, MSh.o4 M1, MSh.l4 M1, MSh.p9 M1, MSh.o5 M1, MSh.l5 M1, MSh.p10 M1, MSh.o6 M1, MSh.l6 M1, MSh.p24 M1, MSh.o7 M1, MSh.l7 M1, MSh.p25 M1, MSh.o8 M1, MSh.l8 M1, MSh.p26 M1, MSh.o9 M1, MSh.l9 M1, MSh.p32 M1, MSh.o10 M1, MSh.l10 M1, MSh.p33 M1, MSh.o11 M1, MSh.l11 M1, MSh.p35 M1, MSh.o12 M1, MSh.l12 M1, MSh.p36 M1, MSh.o13 M1, MSh.l13 M1, MSh.p37 M1, MSh.o14 M1, MSh.l14 M1, MSh.p38 M1, MSh.o15 M1, MSh.l15 M1, MSh.p39 M1, MSh.o16 M1, MSh.l16 M1, MSh.p42 M1, MSh.o17 M1, MSh.l17 M1, MSh.p43 M1, MSh.o18 M1, MSh.l18 M1, MSh.p44 M1, MSh.o19 M1, MSh.l19 M1, MSh.p45 M1, MSh.o20 M1, MSh.l20 M1, MSh.p46 M1, MSh.o21 M1, MSh.l21 M1, MSh.p47 M1, MSh.o22 M1, MSh.l22 M1, MSh.p50 M1, MSh.o23 M1, MSh.l23 M1, MSh.p51 M1, MSh.o24 M1, MSh.l24 M1, MSh.p52 M1, MSh.o25 M1, MSh.l25 M1, fd0, fd1, fd2, fd3, fd4, fd5, fd6, fd7, fd8, fd9, fd10, fd11, fd12, fd13, fd14, fd15, fd16, fd17, fd18, fd19, fd20, fd21, fd22, fd23, fd24, fd25, fd26, fd27, fd28, fd29, fd30, fd31, fd32, fd33, fd34, fd35, fd36, fd37, fd38, fd39, fd40, fd41, fd42, fd43, fd44, fd45, fd46, fd47, fd48, fd49, fd50, fd51, fd52, e40, -Int.reduceToNat, -Int32.reduceToNatClampNeg, il0, il1, il2, il3, il4, il5, il6, il7, il8, il9, il10, il11, il12, il13, il14, il15, il16, il17, il18, il19, il20, il21, il22, il23, il24, il25, il26, il27, il28, il29, il30, il31, il32, il35, il36, il38, il40, il42, il43, il44, il45, il46, il47, il48, il49, il50, il51, il52, il57, il59, il60, il63, il64, il75, il80, il95, il96, il97, il98, il99, il100, il120, il122, il123, il127, il128, il135, il167, il175, il225, il249, il250, il255, il256, il360, il370, il384, il600, il700, il740, il900, il940, il1024, il1600, il4800, il64000, il125000, il262143, il1000000000, iI_toInt, iI_add, iI_sub, iI_mul, iI_neg, iI_lt, iI_le, iI_eq, iI_n, iI_in, iI_div, iI_mod, iI_shm, iI_and1, iI_and7, iI_and63, iI_shr3, iI_shr6, rd_I, ob, Option.some.injEq, exists_eq_left', exists_eq_left, true_and, and_true, fqI, fqJ, eq_self, true_or, or_true, bP_0, bP_0i, npP, bP_1i, bP_b, not_true_eq_false, not_false_eq_true, false_implies, true_implies, implies_true, Classical.not_not, and_self]
      rw [← pg]
      refine m_aloneBack M1 (A.P.cg (f1.row (by simp)) (f1.row (by simp)) (f1.row (by simp)) (f1.row (by simp))) I (by omega) p0 p1 e40 fun h' F' y' => ?_
      exact K1 h S pl A I eS p0 p1 pg h' ((f1.mono (by simp) (by simp) (by simp)).trans (F'.mono (by simp) (by simp) (by simp))) (by rw [F'.row (by simp)]; exact e40) (fun j hj => by rw [F'.row (by simp), r1, updT_n hj]) y'
    · refine K0 h S A I eS fun ⟨pl, p0, p1, pg⟩ => ng ?_
      have er := A.P.rg pl p0 p1
      rw [pg] at er
      rw [er]
      exact (dpt_bd I.fg pl.toNat pl (by omega) p0 p1).1
  intro dd
  induction dd with
  | zero =>
    intro i S h A I hd i0 E
    have t128 := I.le (M := 128) (fun v hv => hv.1)
    exact endd i S h A I E.symm (by omega) i0 (by omega)
  | succ dd ih =>
    intro i S h A I hd i0 E
    have t128 := I.le (M := 128) (fun v hv => hv.1)
    have t1 := I.1
    show wb_X12_alone_123 (wl_X12_alone_123 post (dd + 1)) h 92 (iI r) (iI hr) (iI goal) (iI S.1) (iI i) post
    rw [bRun] at E
    by_cases ci : i < S.1
    case neg =>
      rw [ite_f (fun q => ci q.1)] at E
      exact endd i S h A I E.symm (by omega) i0 (by omega)
    rw [ite_t (⟨ci, id⟩ : i < S.1 ∧ ¬ False)] at E
    have M := A.MM
    have vi := I.2.1 i i0 ci
    have vib := vi.1
    have eq' := A.P.qu i i0 ci
    unfold wb_X12_alone_123
    simp (disch := omega) only [MSh.o0 M, MSh.p1 M, MSh.o1 M, MSh.l1 M, MSh.p6 M, MSh.o2 M, MSh.l2 M, MSh.p7 M, MSh.o3 M, MSh.l3 M, MSh.p8 M, MSh.o4 M, MSh.l4 M, MSh.p9 M, MSh.o5 M, MSh.l5 M, MSh.p10 M, MSh.o6 M, MSh.l6 M, MSh.p24 M, MSh.o7 M, MSh.l7 M, MSh.p25 M, MSh.o8 M, MSh.l8 M, MSh.p26 M, MSh.o9 M, MSh.l9 M, MSh.p32 M, MSh.o10 M, MSh.l10 M, MSh.p33 M, MSh.o11 M, MSh.l11 M, MSh.p35 M, MSh.o12 M, MSh.l12 M, MSh.p36 M, MSh.o13 M, MSh.l13 M, MSh.p37 M, MSh.o14 M, MSh.l14 M, MSh.p38 M, MSh.o15 M, MSh.l15 M, MSh.p39 M, MSh.o16 M, MSh.l16 M, MSh.p42 M, MSh.o17 M, MSh.l17 M, MSh.p43 M, MSh.o18 M, MSh.l18 M, MSh.p44 M, MSh.o19 M, MSh.l19 M, MSh.p45 M, MSh.o20 M, MSh.l20 M, MSh.p46 M, MSh.o21 M, MSh.l21 M, MSh.p47 M, MSh.o22 M, MSh.l22 M, MSh.p50 M, MSh.o23 M, MSh.l23 M, MSh.p51 M, MSh.o24 M, MSh.l24 M, MSh.p52 M, MSh.o25 M, MSh.l25 M, eq', fd0, fd1, fd2, fd3, fd4, fd5, fd6, fd7, fd8, fd9, fd10, fd11, fd12, fd13, fd14, fd15, fd16, fd17, fd18, fd19, fd20, fd21, fd22, fd23, fd24, fd25, fd26, fd27, fd28, fd29, fd30, fd31, fd32, fd33, fd34, fd35, fd36, fd37, fd38, fd39, fd40, fd41, fd42, fd43, fd44, fd45, fd46, fd47, fd48, fd49, fd50, fd51, fd52, -Int.reduceToNat, -Int32.reduceToNatClampNeg, il0, il1, il2, il3, il4, il5, il6, il7, il8, il9, il10, il11, il12, il13, il14, il15, il16, il17, il18, il19, il20, il21, il22, il23, il24, il25, il26, il27, il28, il29, il30, il31, il32, il35, il36, il38, il40, il42, il43, il44, il45, il46, il47, il48, il49, il50, il51, il52, il57, il59, il60, il63, il64, il75, il80, il95, il96, il97, il98, il99, il100, il120, il122, il123, il127, il128, il135, il167, il175, il225, il249, il250, il255, il256, il360, il370, il384, il600, il700, il740, il900, il940, il1024, il1600, il4800, il64000, il125000, il262143, il1000000000, iI_toInt, iI_add, iI_sub, iI_mul, iI_neg, iI_lt, iI_le, iI_eq, iI_n, iI_in, iI_div, iI_mod, iI_shm, iI_and1, iI_and7, iI_and63, iI_shr3, iI_shr6, rd_I, ob, Option.some.injEq, exists_eq_left', exists_eq_left, true_and, and_true, fqI, fqJ, eq_self, true_or, or_true, bP_0, bP_0i, npP, bP_1i, bP_b, not_true_eq_false, not_false_eq_true, false_implies, true_implies, implies_true, Classical.not_not, and_self]
    refine ⟨fun u => by omega, fun _ => ?_⟩
    have inner : ∃ k, wl_X12_alone_142 (wl_X12_alone_123 post (dd + 1)) post k h 92 (iI r) (iI hr) (iI goal) (iI (bHead (nxA s t z r hr) (5 * r) 0 i S).1) (iI i) (iI (S.2.1 i)) (iI 0) := by
      refine lf_for (W := fun k (b : AH × BS) how => wl_X12_alone_142 (wl_X12_alone_123 post (dd + 1)) post k b.1 92 (iI r) (iI hr) (iI goal) (iI b.2.1) (iI i) (iI (S.2.1 i)) (iI how)) (lo := 0) (hi := 5) (fun how b => b.2 = bHead (nxA s t z r hr) (5 * r) how.toNat i S ∧ MA1 h0 b.1 s t z r b.2) (by omega) (fun k b how o0 o1 J nx => ?_) (fun k b J => ?_) (h, bHead (nxA s t z r hr) (5 * r) 0 i S) ⟨rfl, A⟩
      · obtain ⟨g, S2⟩ := b
        obtain ⟨e2, A2⟩ := J
        have e2 : S2 = bHead (nxA s t z r hr) (5 * r) how.toNat i S := e2
        have A2 : MA1 h0 g s t z r S2 := A2
        have ex := bHead_ext (nx := nxA s t z r hr) (lo := 5 * r) (i := i) (S := S) how.toNat
        have I2 := bHead_I (nx := nxA s t z r hr) I i0 ci (fun v a hv a0 a1 hn => nxA_V hZ n0 n1 hr8.1 hr8.2 hv hn) how.toNat (by omega)
        rw [← e2] at ex I2
        have eq2 := (ex.2 i ci).1
        show wb_X12_alone_142 (wl_X12_alone_123 post (dd + 1)) (wl_X12_alone_142 (wl_X12_alone_123 post (dd + 1)) post k) g 92 (iI r) (iI hr) (iI goal) (iI S2.1) (iI i) (iI (S.2.1 i)) (iI how) post
        rw [← eq2]
        refine A2.act I2 gs e hr8 hh ⟨o0, o1⟩ ⟨i0, by have := ex.1; omega⟩ fun h' A' => ?_
        rw [eq2]
        refine nx (h', bAct (nxA s t z r hr) i (5 * r + how) S2) ⟨?_, A'⟩
        show bAct (nxA s t z r hr) i (5 * r + how) S2 = bHead (nxA s t z r hr) (5 * r) (how + 1).toNat i S
        rw [show (how + 1).toNat = how.toNat + 1 by omega, bHead_s, show 5 * r + ((how.toNat : Nat) : Int) = 5 * r + how by omega, e2]
      · obtain ⟨g, S2⟩ := b
        obtain ⟨e2, A2⟩ := J
        have e2 : S2 = bHead (nxA s t z r hr) (5 * r) 5 i S := e2
        have A2 : MA1 h0 g s t z r S2 := A2
        have I2 := bHead_I (nx := nxA s t z r hr) I i0 ci (fun v a hv a0 a1 hn => nxA_V hZ n0 n1 hr8.1 hr8.2 hv hn) 5 (by omega)
        rw [← e2] at I2 E
        show wb_X12_alone_142 (wl_X12_alone_123 post (dd + 1)) (wl_X12_alone_142 (wl_X12_alone_123 post (dd + 1)) post k) g 92 (iI r) (iI hr) (iI goal) (iI S2.1) (iI i) (iI (S.2.1 i)) (iI 5) post
        unfold wb_X12_alone_142
        simp (disch := omega) only [-Int.reduceToNat, -Int32.reduceToNatClampNeg, il0, il1, il2, il3, il4, il5, il6, il7, il8, il9, il10, il11, il12, il13, il14, il15, il16, il17, il18, il19, il20, il21, il22, il23, il24, il25, il26, il27, il28, il29, il30, il31, il32, il35, il36, il38, il40, il42, il43, il44, il45, il46, il47, il48, il49, il50, il51, il52, il57, il59, il60, il63, il64, il75, il80, il95, il96, il97, il98, il99, il100, il120, il122, il123, il127, il128, il135, il167, il175, il225, il249, il250, il255, il256, il360, il370, il384, il600, il700, il740, il900, il940, il1024, il1600, il4800, il64000, il125000, il262143, il1000000000, iI_toInt, iI_add, iI_sub, iI_mul, iI_neg, iI_lt, iI_le, iI_eq, iI_n, iI_in, iI_div, iI_mod, iI_shm, iI_and1, iI_and7, iI_and63, iI_shr3, iI_shr6, rd_I, ob, Option.some.injEq, exists_eq_left', exists_eq_left, true_and, and_true, fqI, fqJ, eq_self, true_or, or_true, bP_0, bP_0i, npP, bP_1i, bP_b, not_true_eq_false, not_false_eq_true, false_implies, true_implies, implies_true, Classical.not_not, and_self]
        exact ⟨fun _ => ih (i + 1) S2 g A2 I2 (by omega) (by omega) E, fun u => by omega⟩
    exact inner
end MRS
