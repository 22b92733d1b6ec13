/-! WANTS of two RAFTS, by their numbers -/
def wth (s : Int → Int) (a b w : Int) : Prop := (s (175 + 5 * w) = 2 ∨ s (175 + 5 * w) = 3 ∨ s (175 + 5 * w + 2) = a ∨ s (175 + 5 * w + 2) = b) ∧ (s (175 + 5 * w + 1) = a ∨ s (175 + 5 * w + 1) = b)
def cv2 (a b : Int) (za zc : Int64) : Nat → Int64 := fun j => if j = b.toNat then zc else if j = a.toNat then za else 0
noncomputable def nsV (s : Int → Int) (a b : Int) (za zc : Int64) : Int32 := foldI (bitsF (wth s a b)) (s 5).toNat 0 (iI 0) &&& (foldI (bitsF (soC s (cv2 a b za zc) (za ||| zc))) (s 5).toNat 0 (iI 0) ^^^ (-1 : Int32))
/-- the pairs of D are weighed -/
def nsD (h0 h : AH) (s : Int → Int) (a b : Int) (D : Int → Int → Prop) : Prop := ∀ p q, 0 ≤ p → p < 40 → 0 ≤ q → q < 40 → D p q → rd h 87 (((a + b - 1) * 40 + p) * 40 + q) = (nsV s a b (aJ h0 83 (40 * a + p).toNat) (aJ h0 83 (40 * b + q).toNat)).toInt
def nsO (h h' : AH) (a b : Int) : Prop := ∀ j : Int, (j < (a + b - 1) * 1600 ∨ (a + b - 1) * 1600 + 1600 ≤ j) → rd h' 87 j = rd h 87 j
def NS3 (h : AH) (s : Int → Int) : Prop := ∀ a b, 0 ≤ a → a < b → b < 3 → nsD h h s a b (fun p q => p < cntB s a ∧ q < cntB s b)
section WEI
variable {h h1 h2 h' h0 g0 g : AH} {qa0 qa ac la : Nat} {postV : AH → Prop} {post : AH → Int32 → Prop} {a b c d f i j k t' v w x y pl r hr how goal st u sp sq q p : Int} {s t z X F B : Int → Int} {S : BS} {za zc cov : Int64} {D : Int → Int → Prop} {C C' : Nat → Int64}
theorem oneZ : ((1 : Int) = 0) = False := eq_false (by decide)
theorem c_within (H : LB h la) (L : LR h la s) (gs : GS s) (h1 : 0 ≤ a) (h2 : a < 8) (h3 : 0 ≤ b) (h4 : b < 8) : wp_X10_bitsWithin h (la + 16) (iI a) (iI b) post ↔ post h (foldI (bitsF (wth s a b)) (s 5).toNat 0 (iI 0)) := by
  have n5 := gs.1.2.2.2.2.2.2.1
  have s5 := gs.1.1 5 (by omega) (by omega)
  have w0 := L.w0
  unfold wp_X10_bitsWithin
  rw [show (0 : Int32) = iI 0 from rfl]
  have key := lp_fold (W := fun n (x : Int32) k => wl_X10_bitsWithin_5 post n h (la + 16) (iI a) (iI b) x (iI k)) (E := fun x => post h x) (f := bitsF (wth s a b)) (lo := 0) (hi := s 5) (fun _ _ => True) (by omega) (fun b i q => q) (fun n x k k1 k2 _ => ?_) (fun _ _ _ _ _ => trivial) (fun n x _ => ?_) (iI 0) trivial
  · rw [Int.sub_zero] at key
    exact key
  · show wb_X10_bitsWithin_5 (wl_X10_bitsWithin_5 post n) h (la + 16) (iI a) (iI b) x (iI k) post ↔ _
    have e1 := L.wk k k1 k2
    have e2 := L.wh k k1 k2
    have e3 := L.wt k k1 k2
    have b1 := gs.1.1 (175 + 5 * k) (by omega) (by omega)
    have b2 := gs.1.1 (175 + 5 * k + 1) (by omega) (by omega)
    have b3 := gs.1.1 (175 + 5 * k + 2) (by omega) (by omega)
    have c99 : ∀ y : Int32, wb_X10_bitsWithin_99 (wl_X10_bitsWithin_5 post n) h (la + 16) (iI a) (iI b) y (iI k) post ↔ wl_X10_bitsWithin_5 post n h (la + 16) (iI a) (iI b) y (iI (k + 1)) := fun y => by
      unfold wb_X10_bitsWithin_99
      simp (disch := omega) only [-Int.reduceToNat, -Int32.reduceToNatClampNeg, il0, il1, il2, il3, il4, il5, il6, il7, il8, il9, il10, il11, il12, il13, il14, il15, il16, il17, il18, il19, il20, il21, il22, il23, il24, il25, il26, il27, il28, il29, il30, il31, il32, il35, il36, il38, il40, il42, il43, il44, il45, il46, il47, il48, il49, il50, il51, il52, il57, il59, il60, il63, il64, il75, il80, il95, il96, il97, il98, il99, il100, il120, il122, il123, il127, il128, il135, il167, il175, il225, il249, il250, il255, il256, il360, il370, il384, il600, il700, il740, il900, il940, il1024, il1600, il4800, il64000, il125000, il262143, il1000000000, iI_toInt, iI_add, iI_sub, iI_mul, iI_neg, iI_lt, iI_le, iI_eq, iI_n, iI_in, iI_div, iI_mod, iI_shm, iI_and1, iI_and7, iI_and63, iI_shr3, iI_shr6, rd_I, ob, Option.some.injEq, exists_eq_left', exists_eq_left, true_and, and_true, fqI, fqJ, eq_self, true_or, or_true, bP_0, bP_0i, npP, bP_1i, bP_b, not_true_eq_false, not_false_eq_true, false_implies, true_implies, implies_true, Classical.not_not, and_self]
    have c63 : wb_X10_bitsWithin_63 (wl_X10_bitsWithin_5 post n) h (la + 16) (iI a) (iI b) x (iI k) (iI 1) post ↔ iteP (s (175 + 5 * k + 1) = a ∨ s (175 + 5 * k + 1) = b) (wl_X10_bitsWithin_5 post n h (la + 16) (iI a) (iI b) (x ||| (iI 1 <<< iI k)) (iI (k + 1))) (wl_X10_bitsWithin_5 post n h (la + 16) (iI a) (iI b) x (iI (k + 1))) := by
      unfold wb_X10_bitsWithin_63 wb_X10_bitsWithin_92
      simp (disch := omega) only [LB.o0 H, LB.p2 H, LB.o1 H, LB.l1 H, LB.p3 H, LB.o2 H, LB.l2 H, LB.p4 H, LB.o3 H, LB.l3 H, LB.p6 H, LB.o4 H, LB.l4 H, LB.p7 H, LB.o5 H, LB.l5 H, LB.p8 H, LB.o6 H, LB.l6 H, LB.p9 H, LB.o7 H, LB.l7 H, LB.p10 H, LB.o8 H, LB.l8 H, LB.p12 H, LB.o9 H, LB.l9 H, LB.p14 H, LB.o10 H, LB.p15 H, LB.o16 H, LB.q10_1 H, LB.o11 H, LB.l11 H, LB.q10_2 H, LB.o12 H, LB.l12 H, LB.q10_3 H, LB.o13 H, LB.l13 H, LB.q10_4 H, LB.o14 H, LB.l14 H, LB.q10_5 H, LB.o15 H, LB.l15 H, LB.q16_1 H, LB.o17 H, LB.l17 H, LB.q16_2 H, LB.o18 H, LB.l18 H, LB.q16_3 H, LB.o19 H, LB.l19 H, LB.q16_4 H, LB.o20 H, LB.l20 H, e2, c99, -Int.reduceToNat, -Int32.reduceToNatClampNeg, il0, il1, il2, il3, il4, il5, il6, il7, il8, il9, il10, il11, il12, il13, il14, il15, il16, il17, il18, il19, il20, il21, il22, il23, il24, il25, il26, il27, il28, il29, il30, il31, il32, il35, il36, il38, il40, il42, il43, il44, il45, il46, il47, il48, il49, il50, il51, il52, il57, il59, il60, il63, il64, il75, il80, il95, il96, il97, il98, il99, il100, il120, il122, il123, il127, il128, il135, il167, il175, il225, il249, il250, il255, il256, il360, il370, il384, il600, il700, il740, il900, il940, il1024, il1600, il4800, il64000, il125000, il262143, il1000000000, iI_toInt, iI_add, iI_sub, iI_mul, iI_neg, iI_lt, iI_le, iI_eq, iI_n, iI_in, iI_div, iI_mod, iI_shm, iI_and1, iI_and7, iI_and63, iI_shr3, iI_shr6, rd_I, oneZ, ob, Option.some.injEq, exists_eq_left', exists_eq_left, true_and, and_true, fqI, fqJ, eq_self, true_or, or_true, bP_0, bP_0i, npP, bP_1i, bP_b, not_true_eq_false, not_false_eq_true, false_implies, true_implies, implies_true, Classical.not_not, and_self]
      by_cases ca : s (175 + 5 * k + 1) = a
      · rw [ite_t (Or.inl ca)]
        exact ⟨fun u => u.1 ca, fun u => ⟨fun _ => u, fun n => absurd ca n⟩⟩
      by_cases cb : s (175 + 5 * k + 1) = b
      · rw [ite_t (Or.inr cb)]
        exact ⟨fun u => (u.2 ca).2 cb, fun u => ⟨fun q => absurd q ca, fun _ => ⟨fun q => absurd cb q, fun _ => u⟩⟩⟩
      · rw [ite_f (by omega)]
        exact ⟨fun u => (u.2 ca).1 cb, fun u => ⟨fun q => absurd q ca, fun _ => ⟨fun _ => u, fun q => absurd q cb⟩⟩⟩
    have c60 : wb_X10_bitsWithin_63 (wl_X10_bitsWithin_5 post n) h (la + 16) (iI a) (iI b) x (iI k) (iI 0) post ↔ wl_X10_bitsWithin_5 post n h (la + 16) (iI a) (iI b) x (iI (k + 1)) := by
      unfold wb_X10_bitsWithin_63
      rw [c99]
      exact ⟨fun u => u.1 rfl, fun u => ⟨fun _ => u, fun q => absurd rfl q⟩⟩
    have fin : (s (175 + 5 * k) = 2 ∨ s (175 + 5 * k) = 3 ∨ s (175 + 5 * k + 2) = a ∨ s (175 + 5 * k + 2) = b) → (iteP (s (175 + 5 * k + 1) = a ∨ s (175 + 5 * k + 1) = b) (wl_X10_bitsWithin_5 post n h (la + 16) (iI a) (iI b) (x ||| (iI 1 <<< iI k)) (iI (k + 1))) (wl_X10_bitsWithin_5 post n h (la + 16) (iI a) (iI b) x (iI (k + 1))) ↔ wl_X10_bitsWithin_5 post n h (la + 16) (iI a) (iI b) (bitsF (wth s a b) k x) (iI (k + 1))) := fun cc => by
      unfold bitsF wth
      by_cases c : s (175 + 5 * k + 1) = a ∨ s (175 + 5 * k + 1) = b
      · rw [ite_t c, ite_t ⟨cc, c⟩]
      · rw [ite_f c, ite_f fun q => c q.2]
    unfold wb_X10_bitsWithin_5 wb_X10_bitsWithin_58
    by_cases q2 : s (175 + 5 * k) = 2
    · simp (disch := omega) only [LB.o0 H, LB.p2 H, LB.o1 H, LB.l1 H, LB.p3 H, LB.o2 H, LB.l2 H, LB.p4 H, LB.o3 H, LB.l3 H, LB.p6 H, LB.o4 H, LB.l4 H, LB.p7 H, LB.o5 H, LB.l5 H, LB.p8 H, LB.o6 H, LB.l6 H, LB.p9 H, LB.o7 H, LB.l7 H, LB.p10 H, LB.o8 H, LB.l8 H, LB.p12 H, LB.o9 H, LB.l9 H, LB.p14 H, LB.o10 H, LB.p15 H, LB.o16 H, LB.q10_1 H, LB.o11 H, LB.l11 H, LB.q10_2 H, LB.o12 H, LB.l12 H, LB.q10_3 H, LB.o13 H, LB.l13 H, LB.q10_4 H, LB.o14 H, LB.l14 H, LB.q10_5 H, LB.o15 H, LB.l15 H, LB.q16_1 H, LB.o17 H, LB.l17 H, LB.q16_2 H, LB.o18 H, LB.l18 H, LB.q16_3 H, LB.o19 H, LB.l19 H, LB.q16_4 H, LB.o20 H, LB.l20 H, fd0, fd1, fd2, fd3, fd4, fd5, fd6, fd7, fd8, fd9, fd10, fd11, fd12, fd13, fd14, fd15, fd16, fd17, fd18, fd19, fd20, fd21, fd22, fd23, fd24, fd25, fd26, fd27, fd28, fd29, fd30, fd31, fd32, fd33, fd34, fd35, fd36, fd37, fd38, fd39, fd40, fd41, fd42, fd43, fd44, fd45, fd46, fd47, fd48, fd49, fd50, fd51, fd52, w0, e1, q2, c63, c60, fin (Or.inl q2), -Int.reduceToNat, -Int32.reduceToNatClampNeg, il0, il1, il2, il3, il4, il5, il6, il7, il8, il9, il10, il11, il12, il13, il14, il15, il16, il17, il18, il19, il20, il21, il22, il23, il24, il25, il26, il27, il28, il29, il30, il31, il32, il35, il36, il38, il40, il42, il43, il44, il45, il46, il47, il48, il49, il50, il51, il52, il57, il59, il60, il63, il64, il75, il80, il95, il96, il97, il98, il99, il100, il120, il122, il123, il127, il128, il135, il167, il175, il225, il249, il250, il255, il256, il360, il370, il384, il600, il700, il740, il900, il940, il1024, il1600, il4800, il64000, il125000, il262143, il1000000000, iI_toInt, iI_add, iI_sub, iI_mul, iI_neg, iI_lt, iI_le, iI_eq, iI_n, iI_in, iI_div, iI_mod, iI_shm, iI_and1, iI_and7, iI_and63, iI_shr3, iI_shr6, rd_I, ob, Option.some.injEq, exists_eq_left', exists_eq_left, true_and, and_true, fqI, fqJ, eq_self, true_or, or_true, bP_0, bP_0i, npP, bP_1i, bP_b, not_true_eq_false, not_false_eq_true, false_implies, true_implies, implies_true, Classical.not_not, and_self]
      exact ⟨fun u => u.2 (by omega), fun u => ⟨fun q => by omega, fun _ => u⟩⟩
    by_cases q3 : s (175 + 5 * k) = 3
    · simp (disch := omega) only [LB.o0 H, LB.p2 H, LB.o1 H, LB.l1 H, LB.p3 H, LB.o2 H, LB.l2 H, LB.p4 H, LB.o3 H, LB.l3 H, LB.p6 H, LB.o4 H, LB.l4 H, LB.p7 H, LB.o5 H, LB.l5 H, LB.p8 H, LB.o6 H, LB.l6 H, LB.p9 H, LB.o7 H, LB.l7 H, LB.p10 H, LB.o8 H, LB.l8 H, LB.p12 H, LB.o9 H, LB.l9 H, LB.p14 H, LB.o10 H, LB.p15 H, LB.o16 H, LB.q10_1 H, LB.o11 H, LB.l11 H, LB.q10_2 H, LB.o12 H, LB.l12 H, LB.q10_3 H, LB.o13 H, LB.l13 H, LB.q10_4 H, LB.o14 H, LB.l14 H, LB.q10_5 H, LB.o15 H, LB.l15 H, LB.q16_1 H, LB.o17 H, LB.l17 H, LB.q16_2 H, LB.o18 H, LB.l18 H, LB.q16_3 H, LB.o19 H, LB.l19 H, LB.q16_4 H, LB.o20 H, LB.l20 H, fd0, fd1, fd2, fd3, fd4, fd5, fd6, fd7, fd8, fd9, fd10, fd11, fd12, fd13, fd14, fd15, fd16, fd17, fd18, fd19, fd20, fd21, fd22, fd23, fd24, fd25, fd26, fd27, fd28, fd29, fd30, fd31, fd32, fd33, fd34, fd35, fd36, fd37, fd38, fd39, fd40, fd41, fd42, fd43, fd44, fd45, fd46, fd47, fd48, fd49, fd50, fd51, fd52, w0, e1, q3, c63, c60, fin (Or.inr (Or.inl q3)), -Int.reduceToNat, -Int32.reduceToNatClampNeg, il0, il1, il2, il3, il4, il5, il6, il7, il8, il9, il10, il11, il12, il13, il14, il15, il16, il17, il18, il19, il20, il21, il22, il23, il24, il25, il26, il27, il28, il29, il30, il31, il32, il35, il36, il38, il40, il42, il43, il44, il45, il46, il47, il48, il49, il50, il51, il52, il57, il59, il60, il63, il64, il75, il80, il95, il96, il97, il98, il99, il100, il120, il122, il123, il127, il128, il135, il167, il175, il225, il249, il250, il255, il256, il360, il370, il384, il600, il700, il740, il900, il940, il1024, il1600, il4800, il64000, il125000, il262143, il1000000000, iI_toInt, iI_add, iI_sub, iI_mul, iI_neg, iI_lt, iI_le, iI_eq, iI_n, iI_in, iI_div, iI_mod, iI_shm, iI_and1, iI_and7, iI_and63, iI_shr3, iI_shr6, rd_I, ob, Option.some.injEq, exists_eq_left', exists_eq_left, true_and, and_true, fqI, fqJ, eq_self, true_or, or_true, bP_0, bP_0i, npP, bP_1i, bP_b, not_true_eq_false, not_false_eq_true, false_implies, true_implies, implies_true, Classical.not_not, and_self]
      exact ⟨fun u => (u.2 (by omega)).2 (by omega), fun u => ⟨fun q => by omega, fun _ => ⟨fun q => by omega, fun _ => u⟩⟩⟩
    rw [if_neg q3] at e3
    simp (disch := omega) only [LB.o0 H, LB.p2 H, LB.o1 H, LB.l1 H, LB.p3 H, LB.o2 H, LB.l2 H, LB.p4 H, LB.o3 H, LB.l3 H, LB.p6 H, LB.o4 H, LB.l4 H, LB.p7 H, LB.o5 H, LB.l5 H, LB.p8 H, LB.o6 H, LB.l6 H, LB.p9 H, LB.o7 H, LB.l7 H, LB.p10 H, LB.o8 H, LB.l8 H, LB.p12 H, LB.o9 H, LB.l9 H, LB.p14 H, LB.o10 H, LB.p15 H, LB.o16 H, LB.q10_1 H, LB.o11 H, LB.l11 H, LB.q10_2 H, LB.o12 H, LB.l12 H, LB.q10_3 H, LB.o13 H, LB.l13 H, LB.q10_4 H, LB.o14 H, LB.l14 H, LB.q10_5 H, LB.o15 H, LB.l15 H, LB.q16_1 H, LB.o17 H, LB.l17 H, LB.q16_2 H, LB.o18 H, LB.l18 H, LB.q16_3 H, LB.o19 H, LB.l19 H, LB.q16_4 H, LB.o20 H, LB.l20 H, fd0, fd1, fd2, fd3, fd4, fd5, fd6, fd7, fd8, fd9, fd10, fd11, fd12, fd13, fd14, fd15, fd16, fd17, fd18, fd19, fd20, fd21, fd22, fd23, fd24, fd25, fd26, fd27, fd28, fd29, fd30, fd31, fd32, fd33, fd34, fd35, fd36, fd37, fd38, fd39, fd40, fd41, fd42, fd43, fd44, fd45, fd46, fd47, fd48, fd49, fd50, fd51, fd52, w0, e1, e3, c63, c60, -Int.reduceToNat, -Int32.reduceToNatClampNeg, il0, il1, il2, il3, il4, il5, il6, il7, il8, il9, il10, il11, il12, il13, il14, il15, il16, il17, il18, il19, il20, il21, il22, il23, il24, il25, il26, il27, il28, il29, il30, il31, il32, il35, il36, il38, il40, il42, il43, il44, il45, il46, il47, il48, il49, il50, il51, il52, il57, il59, il60, il63, il64, il75, il80, il95, il96, il97, il98, il99, il100, il120, il122, il123, il127, il128, il135, il167, il175, il225, il249, il250, il255, il256, il360, il370, il384, il600, il700, il740, il900, il940, il1024, il1600, il4800, il64000, il125000, il262143, il1000000000, iI_toInt, iI_add, iI_sub, iI_mul, iI_neg, iI_lt, iI_le, iI_eq, iI_n, iI_in, iI_div, iI_mod, iI_shm, iI_and1, iI_and7, iI_and63, iI_shr3, iI_shr6, rd_I, ob, Option.some.injEq, exists_eq_left', exists_eq_left, true_and, and_true, fqI, fqJ, eq_self, true_or, or_true, bP_0, bP_0i, npP, bP_1i, bP_b, not_true_eq_false, not_false_eq_true, false_implies, true_implies, implies_true, Classical.not_not, and_self]
    by_cases ca : s (175 + 5 * k + 2) = a
    · rw [fin (Or.inr (Or.inr (Or.inl ca)))]
      exact ⟨fun u => ((u.2 (by omega)).2 q2).2 q3 |>.1 ca, fun u => ⟨fun q => by omega, fun _ => ⟨fun q => absurd q q2, fun _ => ⟨fun q => absurd q q3, fun _ => ⟨fun _ => u, fun q => absurd ca q⟩⟩⟩⟩⟩
    by_cases cb : s (175 + 5 * k + 2) = b
    · rw [fin (Or.inr (Or.inr (Or.inr cb)))]
      exact ⟨fun u => (((u.2 (by omega)).2 q2).2 q3 |>.2 ca).2 cb, fun u => ⟨fun q => by omega, fun _ => ⟨fun q => absurd q q2, fun _ => ⟨fun q => absurd q q3, fun _ => ⟨fun q => absurd q ca, fun _ => ⟨fun q => absurd cb q, fun _ => u⟩⟩⟩⟩⟩⟩
    · have e : bitsF (wth s a b) k x = x := ite_f fun q => by
        have := q.1
        omega
      rw [e]
      exact ⟨fun u => (((u.2 (by omega)).2 q2).2 q3 |>.2 ca).1 cb, fun u => ⟨fun q => by omega, fun _ => ⟨fun q => absurd q q2, fun _ => ⟨fun q => absurd q q3, fun _ => ⟨fun q => absurd q ca, fun _ => ⟨fun _ => u, fun q => absurd q cb⟩⟩⟩⟩⟩⟩
  · show wb_X10_bitsWithin_5 (wl_X10_bitsWithin_5 post n) h (la + 16) (iI a) (iI b) x (iI (s 5)) post ↔ _
    unfold wb_X10_bitsWithin_5
    simp (disch := omega) only [LB.o0 H, LB.p2 H, LB.o1 H, LB.l1 H, LB.p3 H, LB.o2 H, LB.l2 H, LB.p4 H, LB.o3 H, LB.l3 H, LB.p6 H, LB.o4 H, LB.l4 H, LB.p7 H, LB.o5 H, LB.l5 H, LB.p8 H, LB.o6 H, LB.l6 H, LB.p9 H, LB.o7 H, LB.l7 H, LB.p10 H, LB.o8 H, LB.l8 H, LB.p12 H, LB.o9 H, LB.l9 H, LB.p14 H, LB.o10 H, LB.p15 H, LB.o16 H, LB.q10_1 H, LB.o11 H, LB.l11 H, LB.q10_2 H, LB.o12 H, LB.l12 H, LB.q10_3 H, LB.o13 H, LB.l13 H, LB.q10_4 H, LB.o14 H, LB.l14 H, LB.q10_5 H, LB.o15 H, LB.l15 H, LB.q16_1 H, LB.o17 H, LB.l17 H, LB.q16_2 H, LB.o18 H, LB.l18 H, LB.q16_3 H, LB.o19 H, LB.l19 H, LB.q16_4 H, LB.o20 H, LB.l20 H, fd0, fd1, fd2, fd3, fd4, fd5, fd6, fd7, fd8, fd9, fd10, fd11, fd12, fd13, fd14, fd15, fd16, fd17, fd18, fd19, fd20, fd21, fd22, fd23, fd24, fd25, fd26, fd27, fd28, fd29, fd30, fd31, fd32, fd33, fd34, fd35, fd36, fd37, fd38, fd39, fd40, fd41, fd42, fd43, fd44, fd45, fd46, fd47, fd48, fd49, fd50, fd51, fd52, w0, -Int.reduceToNat, -Int32.reduceToNatClampNeg, il0, il1, il2, il3, il4, il5, il6, il7, il8, il9, il10, il11, il12, il13, il14, il15, il16, il17, il18, il19, il20, il21, il22, il23, il24, il25, il26, il27, il28, il29, il30, il31, il32, il35, il36, il38, il40, il42, il43, il44, il45, il46, il47, il48, il49, il50, il51, il52, il57, il59, il60, il63, il64, il75, il80, il95, il96, il97, il98, il99, il100, il120, il122, il123, il127, il128, il135, il167, il175, il225, il249, il250, il255, il256, il360, il370, il384, il600, il700, il740, il900, il940, il1024, il1600, il4800, il64000, il125000, il262143, il1000000000, iI_toInt, iI_add, iI_sub, iI_mul, iI_neg, iI_lt, iI_le, iI_eq, iI_n, iI_in, iI_div, iI_mod, iI_shm, iI_and1, iI_and7, iI_and63, iI_shr3, iI_shr6, rd_I, ob, Option.some.injEq, exists_eq_left', exists_eq_left, true_and, and_true, fqI, fqJ, eq_self, true_or, or_true, bP_0, bP_0i, npP, bP_1i, bP_b, not_true_eq_false, not_false_eq_true, false_implies, true_implies, implies_true, Classical.not_not, and_self]
    exact ⟨fun u => u.1 (by omega), fun u => ⟨fun _ => u, fun q => by omega⟩⟩
theorem soC_cg (gs : GS s) (e : ∀ j : Nat, j < 8 → C j = C' j) (h1 : 0 ≤ w) (h2 : w < s 5) : soC s C cov w ↔ soC s C' cov w := by
  obtain ⟨⟨hS, n0, n1, n2, n3, n4, n5, hK, hW⟩, hD, hPo, hNe⟩ := gs
  obtain ⟨⟨k0, k1⟩, ⟨k2, k3⟩, k4⟩ := hW w h1 h2
  have a1 := e (s (175 + 5 * w + 1)).toNat (by omega)
  unfold soC
  rw [a1]
  by_cases c : s (175 + 5 * w) ≤ 1
  · rw [e (s (175 + 5 * w + 2)).toNat (by have := k4 c; omega)]
  · simp only [if_neg (show ¬ s (175 + 5 * w) = 0 by omega), if_neg (show ¬ s (175 + 5 * w) = 1 by omega)]
theorem so_cg (gs : GS s) (e : ∀ j : Nat, j < 8 → C j = C' j) : foldI (bitsF (soC s C cov)) (s 5).toNat 0 (iI 0) = foldI (bitsF (soC s C' cov)) (s 5).toNat 0 (iI 0) := by
  refine foldI_c _ _ _ fun w b w1 w2 => ?_
  unfold bitsF
  exact ite_c (soC_cg gs e w1 (by omega))
theorem c_weighTwo (S : CSh h) (H : LB h la) (L : LR h la s) (hl : la = 5 ∨ la = 32) (pz : aP h 80 0 = some la) (gs : GS s) (hL : WLi s) (fw : few s) (L3 : BL3 h s) (hab : 0 ≤ a ∧ a < b ∧ b < 3) (K : ∀ h', Fr [87] [88] [] h h' → nsD h h' s a b (fun p q => p < cntB s a ∧ q < cntB s b) → nsO h h' a b → postV h') : wp_X0_weighTwo h 80 (iI a) (iI b) postV := by
  have ca := cntB_b (r := a) gs fw hab.1 (by omega)
  have cb := cntB_b (r := b) gs fw (by omega) hab.2.2
  have ea := L3.cnt hab.1 (show a < 3 by omega)
  have eb := L3.cnt (show 0 ≤ b by omega) hab.2.2
  unfold wp_X0_weighTwo
  refine ⟨S.o80, la, pz, H.o0, la + 16, H.p15, H.o16, (c_within H L gs hab.1 (by omega) (by omega) (by omega)).mpr ⟨S.o80, 88, S.p80_8, c_fillJ S.o88 S.l88 (by omega) fun g0 f0 z0 => ?_⟩⟩
  generalize hW : foldI (bitsF (wth s a b)) (s 5).toNat 0 (iI 0) = W
  have base : ∀ {g}, Fr [87] [88] [] h g → CSh g ∧ LB g la ∧ LR g la s ∧ aP g 80 0 = some la ∧ rd g 81 = rd h 81 ∧ aJ g 83 = aJ h 83 := fun {g} F => ⟨S.gr F.gr, H.gr F.gr (by omega), L.fr F (fun j hj => by simp; omega) (fun j hj => by simp; omega), by rw [F.aPe]; exact pz, F.row (by simp), F.2.2.2.2.2.1 83 (by simp)⟩
  rw [show (0 : Int32) = iI 0 from rfl]
  refine lf_for (W := fun k (g : AH) p => wl_X0_weighTwo_24 postV k g 80 (iI a) (iI b) W (iI p)) (lo := 0) (hi := cntB s a) (fun p g => Fr [87] [88] [] h g ∧ nsD h g s a b (fun p' q' => p' < p ∧ q' < cntB s b) ∧ nsO h g a b ∧ ∀ j : Nat, j < 8 → j ≠ a.toNat → j ≠ b.toNat → aJ g 88 j = 0) ca.1 (fun k g p p0 p1 J nx => ?_) (fun k g J => ?_) g0 ⟨f0.mono (by simp) (by simp) (by simp), fun p q _ _ _ _ D => by omega, fun j _ => by rw [f0.row (by simp)], fun j hj _ _ => z0 j hj⟩
  · obtain ⟨Fg, T, O, zz⟩ := J
    obtain ⟨Sg, Hg, Lg, pg, e81, e83⟩ := base Fg
    have ea' : rd g 81 a = cntB s a := by rw [e81]; exact ea
    show wb_X0_weighTwo_24 (wl_X0_weighTwo_24 postV k) g 80 (iI a) (iI b) W (iI p) postV
    unfold wb_X0_weighTwo_24
    simp (disch := omega) only [CSh.o0 Sg, CSh.o1 Sg, CSh.o2 Sg, CSh.o3 Sg, CSh.o26 Sg, CSh.o27 Sg, CSh.o29 Sg, CSh.o30 Sg, CSh.o31 Sg, CSh.o56 Sg, CSh.o57 Sg, CSh.o58 Sg, CSh.o62 Sg, CSh.o66 Sg, CSh.o70 Sg, CSh.o74 Sg, CSh.o75 Sg, CSh.o77 Sg, CSh.o79 Sg, CSh.o80 Sg, CSh.o81 Sg, CSh.o82 Sg, CSh.o83 Sg, CSh.o84 Sg, CSh.o85 Sg, CSh.o86 Sg, CSh.o87 Sg, CSh.o88 Sg, CSh.o53 Sg, CSh.o54 Sg, CSh.o55 Sg, CSh.o59 Sg, CSh.o60 Sg, CSh.o61 Sg, CSh.o63 Sg, CSh.o64 Sg, CSh.o65 Sg, CSh.o67 Sg, CSh.o68 Sg, CSh.o69 Sg, CSh.o71 Sg, CSh.o72 Sg, CSh.o73 Sg, CSh.o89 Sg, CSh.o90 Sg, CSh.o91 Sg, CSh.l1 Sg, CSh.l3 Sg, CSh.l27 Sg, CSh.l29 Sg, CSh.l30 Sg, CSh.l56 Sg, CSh.l57 Sg, CSh.l58 Sg, CSh.l75 Sg, CSh.l77 Sg, CSh.l79 Sg, CSh.l81 Sg, CSh.l82 Sg, CSh.l83 Sg, CSh.l84 Sg, CSh.l85 Sg, CSh.l86 Sg, CSh.l87 Sg, CSh.l88 Sg, CSh.l54 Sg, CSh.l55 Sg, CSh.l60 Sg, CSh.l61 Sg, CSh.l64 Sg, CSh.l65 Sg, CSh.l68 Sg, CSh.l69 Sg, CSh.l72 Sg, CSh.l73 Sg, CSh.l90 Sg, CSh.l91 Sg, CSh.p0_0 Sg, CSh.p0_3 Sg, CSh.p0_4 Sg, CSh.p0_5 Sg, CSh.p0_6 Sg, CSh.p0_7 Sg, CSh.p0_8 Sg, CSh.p0_9 Sg, CSh.p0_10 Sg, CSh.p0_14 Sg, CSh.p2_0 Sg, CSh.p26_0 Sg, CSh.p26_13 Sg, CSh.p26_14 Sg, CSh.p31_1 Sg, CSh.p31_3 Sg, CSh.p31_4 Sg, CSh.p62_0 Sg, CSh.p66_0 Sg, CSh.p70_0 Sg, CSh.p74_0 Sg, CSh.p74_1 Sg, CSh.p74_6 Sg, CSh.p74_7 Sg, CSh.p74_10 Sg, CSh.p80_1 Sg, CSh.p80_2 Sg, CSh.p80_3 Sg, CSh.p80_4 Sg, CSh.p80_5 Sg, CSh.p80_6 Sg, CSh.p80_7 Sg, CSh.p80_8 Sg, CSh.p53_1 Sg, CSh.p53_2 Sg, CSh.p59_1 Sg, CSh.p59_2 Sg, CSh.p63_1 Sg, CSh.p63_2 Sg, CSh.p67_1 Sg, CSh.p67_2 Sg, CSh.p71_1 Sg, CSh.p71_2 Sg, CSh.p89_1 Sg, CSh.p89_2 Sg, ea', e83, -Int.reduceToNat, -Int32.reduceToNatClampNeg, il0, il1, il2, il3, il4, il5, il6, il7, il8, il9, il10, il11, il12, il13, il14, il15, il16, il17, il18, il19, il20, il21, il22, il23, il24, il25, il26, il27, il28, il29, il30, il31, il32, il35, il36, il38, il40, il42, il43, il44, il45, il46, il47, il48, il49, il50, il51, il52, il57, il59, il60, il63, il64, il75, il80, il95, il96, il97, il98, il99, il100, il120, il122, il123, il127, il128, il135, il167, il175, il225, il249, il250, il255, il256, il360, il370, il384, il600, il700, il740, il900, il940, il1024, il1600, il4800, il64000, il125000, il262143, il1000000000, iI_toInt, iI_add, iI_sub, iI_mul, iI_neg, iI_lt, iI_le, iI_eq, iI_n, iI_in, iI_div, iI_mod, iI_shm, iI_and1, iI_and7, iI_and63, iI_shr3, iI_shr6, rd_I, ob, Option.some.injEq, exists_eq_left', exists_eq_left, true_and, and_true, fqI, fqJ, eq_self, true_or, or_true, bP_0, bP_0i, npP, bP_1i, bP_b, not_true_eq_false, not_false_eq_true, false_implies, true_implies, implies_true, Classical.not_not, and_self]
    rw [show a * 40 + p = 40 * a + p by omega]
    refine ⟨fun u => by omega, fun _ => ?_⟩
    intro g1 w1
    have f1 : Fr [] [88] [] g g1 := by rw [w1]; exact fr_hJ
    have j1 : ∀ j : Nat, aJ g1 88 j = if j = a.toNat then aJ h 83 (40 * a + p).toNat else aJ g 88 j := fun j => by rw [w1, aJ_hJ]
    have F1 : Fr [87] [88] [] h g1 := Fg.trans (f1.mono (by simp) (by simp) (by simp))
    have r1 : rd g1 87 = rd g 87 := f1.row (by simp)
    refine lf_for (W := fun k' (g : AH) q => wl_X0_weighTwo_56 (wl_X0_weighTwo_24 postV k) postV k' g 80 (iI a) (iI b) W (iI p) (iI q)) (lo := 0) (hi := cntB s b) (fun q g => Fr [87] [88] [] h g ∧ nsD h g s a b (fun p' q' => (p' < p ∧ q' < cntB s b) ∨ (p' = p ∧ q' < q)) ∧ nsO h g a b ∧ (∀ j : Nat, j < 8 → j ≠ a.toNat → j ≠ b.toNat → aJ g 88 j = 0) ∧ aJ g 88 a.toNat = aJ h 83 (40 * a + p).toNat) cb.1 (fun k' g q q0 q1 J nx' => ?_) (fun k' g J => ?_) g1 ⟨F1, fun p' q' u0 u1 v0 v1 D => by rw [r1]; exact T p' q' u0 u1 v0 v1 (by omega), fun j hj => by rw [r1]; exact O j hj, fun j hj na nb => by rw [j1, if_neg na]; exact zz j hj na nb, by rw [j1, if_pos rfl]⟩
    · obtain ⟨Fg, T, O, zz, za⟩ := J
      obtain ⟨Sg, Hg, Lg, pg, e81, e83⟩ := base Fg
      have eb' : rd g 81 b = cntB s b := by rw [e81]; exact eb
      show wb_X0_weighTwo_56 (wl_X0_weighTwo_24 postV k) (wl_X0_weighTwo_56 (wl_X0_weighTwo_24 postV k) postV k') g 80 (iI a) (iI b) W (iI p) (iI q) postV
      unfold wb_X0_weighTwo_56
      simp (disch := omega) only [CSh.o0 Sg, CSh.o1 Sg, CSh.o2 Sg, CSh.o3 Sg, CSh.o26 Sg, CSh.o27 Sg, CSh.o29 Sg, CSh.o30 Sg, CSh.o31 Sg, CSh.o56 Sg, CSh.o57 Sg, CSh.o58 Sg, CSh.o62 Sg, CSh.o66 Sg, CSh.o70 Sg, CSh.o74 Sg, CSh.o75 Sg, CSh.o77 Sg, CSh.o79 Sg, CSh.o80 Sg, CSh.o81 Sg, CSh.o82 Sg, CSh.o83 Sg, CSh.o84 Sg, CSh.o85 Sg, CSh.o86 Sg, CSh.o87 Sg, CSh.o88 Sg, CSh.o53 Sg, CSh.o54 Sg, CSh.o55 Sg, CSh.o59 Sg, CSh.o60 Sg, CSh.o61 Sg, CSh.o63 Sg, CSh.o64 Sg, CSh.o65 Sg, CSh.o67 Sg, CSh.o68 Sg, CSh.o69 Sg, CSh.o71 Sg, CSh.o72 Sg, CSh.o73 Sg, CSh.o89 Sg, CSh.o90 Sg, CSh.o91 Sg, CSh.l1 Sg, CSh.l3 Sg, CSh.l27 Sg, CSh.l29 Sg, CSh.l30 Sg, CSh.l56 Sg, CSh.l57 Sg, CSh.l58 Sg, CSh.l75 Sg, CSh.l77 Sg, CSh.l79 Sg, CSh.l81 Sg, CSh.l82 Sg, CSh.l83 Sg, CSh.l84 Sg, CSh.l85 Sg, CSh.l86 Sg, CSh.l87 Sg, CSh.l88 Sg, CSh.l54 Sg, CSh.l55 Sg, CSh.l60 Sg, CSh.l61 Sg, CSh.l64 Sg, CSh.l65 Sg, CSh.l68 Sg, CSh.l69 Sg, CSh.l72 Sg, CSh.l73 Sg, CSh.l90 Sg, CSh.l91 Sg, CSh.p0_0 Sg, CSh.p0_3 Sg, CSh.p0_4 Sg, CSh.p0_5 Sg, CSh.p0_6 Sg, CSh.p0_7 Sg, CSh.p0_8 Sg, CSh.p0_9 Sg, CSh.p0_10 Sg, CSh.p0_14 Sg, CSh.p2_0 Sg, CSh.p26_0 Sg, CSh.p26_13 Sg, CSh.p26_14 Sg, CSh.p31_1 Sg, CSh.p31_3 Sg, CSh.p31_4 Sg, CSh.p62_0 Sg, CSh.p66_0 Sg, CSh.p70_0 Sg, CSh.p74_0 Sg, CSh.p74_1 Sg, CSh.p74_6 Sg, CSh.p74_7 Sg, CSh.p74_10 Sg, CSh.p80_1 Sg, CSh.p80_2 Sg, CSh.p80_3 Sg, CSh.p80_4 Sg, CSh.p80_5 Sg, CSh.p80_6 Sg, CSh.p80_7 Sg, CSh.p80_8 Sg, CSh.p53_1 Sg, CSh.p53_2 Sg, CSh.p59_1 Sg, CSh.p59_2 Sg, CSh.p63_1 Sg, CSh.p63_2 Sg, CSh.p67_1 Sg, CSh.p67_2 Sg, CSh.p71_1 Sg, CSh.p71_2 Sg, CSh.p89_1 Sg, CSh.p89_2 Sg, eb', e83, -Int.reduceToNat, -Int32.reduceToNatClampNeg, il0, il1, il2, il3, il4, il5, il6, il7, il8, il9, il10, il11, il12, il13, il14, il15, il16, il17, il18, il19, il20, il21, il22, il23, il24, il25, il26, il27, il28, il29, il30, il31, il32, il35, il36, il38, il40, il42, il43, il44, il45, il46, il47, il48, il49, il50, il51, il52, il57, il59, il60, il63, il64, il75, il80, il95, il96, il97, il98, il99, il100, il120, il122, il123, il127, il128, il135, il167, il175, il225, il249, il250, il255, il256, il360, il370, il384, il600, il700, il740, il900, il940, il1024, il1600, il4800, il64000, il125000, il262143, il1000000000, iI_toInt, iI_add, iI_sub, iI_mul, iI_neg, iI_lt, iI_le, iI_eq, iI_n, iI_in, iI_div, iI_mod, iI_shm, iI_and1, iI_and7, iI_and63, iI_shr3, iI_shr6, rd_I, ob, Option.some.injEq, exists_eq_left', exists_eq_left, true_and, and_true, fqI, fqJ, eq_self, true_or, or_true, bP_0, bP_0i, npP, bP_1i, bP_b, not_true_eq_false, not_false_eq_true, false_implies, true_implies, implies_true, Classical.not_not, and_self]
      rw [show b * 40 + q = 40 * b + q by omega]
      refine ⟨fun u => by omega, fun _ => ?_⟩
      intro g2 w2
      have f2 : Fr [] [88] [] g g2 := by rw [w2]; exact fr_hJ
      have j2 : ∀ j : Nat, aJ g2 88 j = if j = b.toNat then aJ h 83 (40 * b + q).toNat else aJ g 88 j := fun j => by rw [w2, aJ_hJ]
      have F2 : Fr [87] [88] [] h g2 := Fg.trans (f2.mono (by simp) (by simp) (by simp))
      obtain ⟨S2, H2, L2, p2, e812, e832⟩ := base F2
      have x1 : aJ g2 88 a.toNat = aJ h 83 (40 * a + p).toNat := by rw [j2, if_neg (by omega)]; exact za
      have x2 : aJ g2 88 b.toNat = aJ h 83 (40 * b + q).toNat := by rw [j2, if_pos rfl]
      refine ⟨S2.o80, la, p2, H2.o0, la + 16, H2.p15, S2.o80, 88, S2.p80_8, S2.o80, 88, S2.p80_8, S2.o88, iI_in hab.1 (by rw [S2.l88]; omega) (by rw [S2.l88]; omega), S2.o80, 88, S2.p80_8, S2.o88, iI_in (by omega) (by rw [S2.l88]; omega) (by rw [S2.l88]; omega), H2.o16, (c_soBits H2 L2 gs hL S2.o88 S2.l88).mpr ?_⟩
      rw [x1, x2]
      have ec : foldI (bitsF (soC s (aJ g2 88) (aJ h 83 (40 * a + p).toNat ||| aJ h 83 (40 * b + q).toNat))) (s 5).toNat 0 (iI 0) = foldI (bitsF (soC s (cv2 a b (aJ h 83 (40 * a + p).toNat) (aJ h 83 (40 * b + q).toNat)) (aJ h 83 (40 * a + p).toNat ||| aJ h 83 (40 * b + q).toNat))) (s 5).toNat 0 (iI 0) := so_cg gs fun j hj => by
        unfold cv2
        rw [j2]
        by_cases c1 : j = b.toNat
        · rw [if_pos c1, if_pos c1]
        rw [if_neg c1, if_neg c1]
        by_cases c2 : j = a.toNat
        · rw [if_pos c2, c2]; exact za
        · rw [if_neg c2]; exact zz j hj c2 c1
      rw [ec]
      generalize hV : foldI (bitsF (soC s (cv2 a b (aJ h 83 (40 * a + p).toNat) (aJ h 83 (40 * b + q).toNat)) (aJ h 83 (40 * a + p).toNat ||| aJ h 83 (40 * b + q).toNat))) (s 5).toNat 0 (iI 0) = VV
      have ns : W &&& (VV ^^^ (-1 : Int32)) = nsV s a b (aJ h 83 (40 * a + p).toNat) (aJ h 83 (40 * b + q).toNat) := by
        unfold nsV
        rw [hW, hV]
      have ns : W &&& (VV ^^^ iI (-1)) = nsV s a b (aJ h 83 (40 * a + p).toNat) (aJ h 83 (40 * b + q).toNat) := ns
      rw [ns]
      simp (disch := omega) only [CSh.o0 S2, CSh.o1 S2, CSh.o2 S2, CSh.o3 S2, CSh.o26 S2, CSh.o27 S2, CSh.o29 S2, CSh.o30 S2, CSh.o31 S2, CSh.o56 S2, CSh.o57 S2, CSh.o58 S2, CSh.o62 S2, CSh.o66 S2, CSh.o70 S2, CSh.o74 S2, CSh.o75 S2, CSh.o77 S2, CSh.o79 S2, CSh.o80 S2, CSh.o81 S2, CSh.o82 S2, CSh.o83 S2, CSh.o84 S2, CSh.o85 S2, CSh.o86 S2, CSh.o87 S2, CSh.o88 S2, CSh.o53 S2, CSh.o54 S2, CSh.o55 S2, CSh.o59 S2, CSh.o60 S2, CSh.o61 S2, CSh.o63 S2, CSh.o64 S2, CSh.o65 S2, CSh.o67 S2, CSh.o68 S2, CSh.o69 S2, CSh.o71 S2, CSh.o72 S2, CSh.o73 S2, CSh.o89 S2, CSh.o90 S2, CSh.o91 S2, CSh.l1 S2, CSh.l3 S2, CSh.l27 S2, CSh.l29 S2, CSh.l30 S2, CSh.l56 S2, CSh.l57 S2, CSh.l58 S2, CSh.l75 S2, CSh.l77 S2, CSh.l79 S2, CSh.l81 S2, CSh.l82 S2, CSh.l83 S2, CSh.l84 S2, CSh.l85 S2, CSh.l86 S2, CSh.l87 S2, CSh.l88 S2, CSh.l54 S2, CSh.l55 S2, CSh.l60 S2, CSh.l61 S2, CSh.l64 S2, CSh.l65 S2, CSh.l68 S2, CSh.l69 S2, CSh.l72 S2, CSh.l73 S2, CSh.l90 S2, CSh.l91 S2, CSh.p0_0 S2, CSh.p0_3 S2, CSh.p0_4 S2, CSh.p0_5 S2, CSh.p0_6 S2, CSh.p0_7 S2, CSh.p0_8 S2, CSh.p0_9 S2, CSh.p0_10 S2, CSh.p0_14 S2, CSh.p2_0 S2, CSh.p26_0 S2, CSh.p26_13 S2, CSh.p26_14 S2, CSh.p31_1 S2, CSh.p31_3 S2, CSh.p31_4 S2, CSh.p62_0 S2, CSh.p66_0 S2, CSh.p70_0 S2, CSh.p74_0 S2, CSh.p74_1 S2, CSh.p74_6 S2, CSh.p74_7 S2, CSh.p74_10 S2, CSh.p80_1 S2, CSh.p80_2 S2, CSh.p80_3 S2, CSh.p80_4 S2, CSh.p80_5 S2, CSh.p80_6 S2, CSh.p80_7 S2, CSh.p80_8 S2, CSh.p53_1 S2, CSh.p53_2 S2, CSh.p59_1 S2, CSh.p59_2 S2, CSh.p63_1 S2, CSh.p63_2 S2, CSh.p67_1 S2, CSh.p67_2 S2, CSh.p71_1 S2, CSh.p71_2 S2, CSh.p89_1 S2, CSh.p89_2 S2, -Int.reduceToNat, -Int32.reduceToNatClampNeg, il0, il1, il2, il3, il4, il5, il6, il7, il8, il9, il10, il11, il12, il13, il14, il15, il16, il17, il18, il19, il20, il21, il22, il23, il24, il25, il26, il27, il28, il29, il30, il31, il32, il35, il36, il38, il40, il42, il43, il44, il45, il46, il47, il48, il49, il50, il51, il52, il57, il59, il60, il63, il64, il75, il80, il95, il96, il97, il98, il99, il100, il120, il122, il123, il127, il128, il135, il167, il175, il225, il249, il250, il255, il256, il360, il370, il384, il600, il700, il740, il900, il940, il1024, il1600, il4800, il64000, il125000, il262143, il1000000000, iI_toInt, iI_add, iI_sub, iI_mul, iI_neg, iI_lt, iI_le, iI_eq, iI_n, iI_in, iI_div, iI_mod, iI_shm, iI_and1, iI_and7, iI_and63, iI_shr3, iI_shr6, rd_I, ob, Option.some.injEq, exists_eq_left', exists_eq_left, true_and, and_true, fqI, fqJ, eq_self, true_or, or_true, bP_0, bP_0i, npP, bP_1i, bP_b, not_true_eq_false, not_false_eq_true, false_implies, true_implies, implies_true, Classical.not_not, and_self]
      intro g3 w3
      obtain ⟨f3, r3⟩ := wI' (i := ((a + b - 1) * 40 + p) * 40 + q) (by omega) w3
      have r2 : rd g2 87 = rd g 87 := f2.row (by simp)
      refine nx' g3 ⟨F2.trans (f3.mono (by simp) (by simp) (by simp)), fun p' q' u0 u1 v0 v1 D => ?_, fun j hj => by rw [r3, updT_n (by omega), r2]; exact O j hj, fun j hj na nb => by rw [f3.2.2.2.2.2.1 88 (by simp), j2, if_neg nb]; exact zz j hj na nb, by rw [f3.2.2.2.2.2.1 88 (by simp)]; exact x1⟩
      rw [r3]
      by_cases c : p' = p ∧ q' = q
      · rw [c.1, c.2, updT_s]
      · rw [updT_n (by omega), r2]
        exact T p' q' u0 u1 v0 v1 (by omega)
    · obtain ⟨Fg, T, O, zz, za⟩ := J
      obtain ⟨Sg, Hg, Lg, pg, e81, e83⟩ := base Fg
      have eb' : rd g 81 b = cntB s b := by rw [e81]; exact eb
      show wb_X0_weighTwo_56 (wl_X0_weighTwo_24 postV k) (wl_X0_weighTwo_56 (wl_X0_weighTwo_24 postV k) postV k') g 80 (iI a) (iI b) W (iI p) (iI (cntB s b)) postV
      unfold wb_X0_weighTwo_56
      simp (disch := omega) only [CSh.o0 Sg, CSh.o1 Sg, CSh.o2 Sg, CSh.o3 Sg, CSh.o26 Sg, CSh.o27 Sg, CSh.o29 Sg, CSh.o30 Sg, CSh.o31 Sg, CSh.o56 Sg, CSh.o57 Sg, CSh.o58 Sg, CSh.o62 Sg, CSh.o66 Sg, CSh.o70 Sg, CSh.o74 Sg, CSh.o75 Sg, CSh.o77 Sg, CSh.o79 Sg, CSh.o80 Sg, CSh.o81 Sg, CSh.o82 Sg, CSh.o83 Sg, CSh.o84 Sg, CSh.o85 Sg, CSh.o86 Sg, CSh.o87 Sg, CSh.o88 Sg, CSh.o53 Sg, CSh.o54 Sg, CSh.o55 Sg, CSh.o59 Sg, CSh.o60 Sg, CSh.o61 Sg, CSh.o63 Sg, CSh.o64 Sg, CSh.o65 Sg, CSh.o67 Sg, CSh.o68 Sg, CSh.o69 Sg, CSh.o71 Sg, CSh.o72 Sg, CSh.o73 Sg, CSh.o89 Sg, CSh.o90 Sg, CSh.o91 Sg, CSh.l1 Sg, CSh.l3 Sg, CSh.l27 Sg, CSh.l29 Sg, CSh.l30 Sg, CSh.l56 Sg, CSh.l57 Sg, CSh.l58 Sg, CSh.l75 Sg, CSh.l77 Sg, CSh.l79 Sg, CSh.l81 Sg, CSh.l82 Sg, CSh.l83 Sg, CSh.l84 Sg, CSh.l85 Sg, CSh.l86 Sg, CSh.l87 Sg, CSh.l88 Sg, CSh.l54 Sg, CSh.l55 Sg, CSh.l60 Sg, CSh.l61 Sg, CSh.l64 Sg, CSh.l65 Sg, CSh.l68 Sg, CSh.l69 Sg, CSh.l72 Sg, CSh.l73 Sg, CSh.l90 Sg, CSh.l91 Sg, CSh.p0_0 Sg, CSh.p0_3 Sg, CSh.p0_4 Sg, CSh.p0_5 Sg, CSh.p0_6 Sg, CSh.p0_7 Sg, CSh.p0_8 Sg, CSh.p0_9 Sg, CSh.p0_10 Sg, CSh.p0_14 Sg, CSh.p2_0 Sg, CSh.p26_0 Sg, CSh.p26_13 Sg, CSh.p26_14 Sg, CSh.p31_1 Sg, CSh.p31_3 Sg, CSh.p31_4 Sg, CSh.p62_0 Sg, CSh.p66_0 Sg, CSh.p70_0 Sg, CSh.p74_0 Sg, CSh.p74_1 Sg, CSh.p74_6 Sg, CSh.p74_7 Sg, CSh.p74_10 Sg, CSh.p80_1 Sg, CSh.p80_2 Sg, CSh.p80_3 Sg, CSh.p80_4 Sg, CSh.p80_5 Sg, CSh.p80_6 Sg, CSh.p80_7 Sg, CSh.p80_8 Sg, CSh.p53_1 Sg, CSh.p53_2 Sg, CSh.p59_1 Sg, CSh.p59_2 Sg, CSh.p63_1 Sg, CSh.p63_2 Sg, CSh.p67_1 Sg, CSh.p67_2 Sg, CSh.p71_1 Sg, CSh.p71_2 Sg, CSh.p89_1 Sg, CSh.p89_2 Sg, eb', -Int.reduceToNat, -Int32.reduceToNatClampNeg, il0, il1, il2, il3, il4, il5, il6, il7, il8, il9, il10, il11, il12, il13, il14, il15, il16, il17, il18, il19, il20, il21, il22, il23, il24, il25, il26, il27, il28, il29, il30, il31, il32, il35, il36, il38, il40, il42, il43, il44, il45, il46, il47, il48, il49, il50, il51, il52, il57, il59, il60, il63, il64, il75, il80, il95, il96, il97, il98, il99, il100, il120, il122, il123, il127, il128, il135, il167, il175, il225, il249, il250, il255, il256, il360, il370, il384, il600, il700, il740, il900, il940, il1024, il1600, il4800, il64000, il125000, il262143, il1000000000, iI_toInt, iI_add, iI_sub, iI_mul, iI_neg, iI_lt, iI_le, iI_eq, iI_n, iI_in, iI_div, iI_mod, iI_shm, iI_and1, iI_and7, iI_and63, iI_shr3, iI_shr6, rd_I, ob, Option.some.injEq, exists_eq_left', exists_eq_left, true_and, and_true, fqI, fqJ, eq_self, true_or, or_true, bP_0, bP_0i, npP, bP_1i, bP_b, not_true_eq_false, not_false_eq_true, false_implies, true_implies, implies_true, Classical.not_not, and_self]
      exact ⟨fun _ => nx g ⟨Fg, fun p' q' u0 u1 v0 v1 D => T p' q' u0 u1 v0 v1 (by omega), O, zz⟩, fun u => by omega⟩
  · obtain ⟨Fg, T, O, zz⟩ := J
    obtain ⟨Sg, Hg, Lg, pg, e81, e83⟩ := base Fg
    have ea' : rd g 81 a = cntB s a := by rw [e81]; exact ea
    show wb_X0_weighTwo_24 (wl_X0_weighTwo_24 postV k) g 80 (iI a) (iI b) W (iI (cntB s a)) postV
    unfold wb_X0_weighTwo_24
    simp (disch := omega) only [CSh.o0 Sg, CSh.o1 Sg, CSh.o2 Sg, CSh.o3 Sg, CSh.o26 Sg, CSh.o27 Sg, CSh.o29 Sg, CSh.o30 Sg, CSh.o31 Sg, CSh.o56 Sg, CSh.o57 Sg, CSh.o58 Sg, CSh.o62 Sg, CSh.o66 Sg, CSh.o70 Sg, CSh.o74 Sg, CSh.o75 Sg, CSh.o77 Sg, CSh.o79 Sg, CSh.o80 Sg, CSh.o81 Sg, CSh.o82 Sg, CSh.o83 Sg, CSh.o84 Sg, CSh.o85 Sg, CSh.o86 Sg, CSh.o87 Sg, CSh.o88 Sg, CSh.o53 Sg, CSh.o54 Sg, CSh.o55 Sg, CSh.o59 Sg, CSh.o60 Sg, CSh.o61 Sg, CSh.o63 Sg, CSh.o64 Sg, CSh.o65 Sg, CSh.o67 Sg, CSh.o68 Sg, CSh.o69 Sg, CSh.o71 Sg, CSh.o72 Sg, CSh.o73 Sg, CSh.o89 Sg, CSh.o90 Sg, CSh.o91 Sg, CSh.l1 Sg, CSh.l3 Sg, CSh.l27 Sg, CSh.l29 Sg, CSh.l30 Sg, CSh.l56 Sg, CSh.l57 Sg, CSh.l58 Sg, CSh.l75 Sg, CSh.l77 Sg, CSh.l79 Sg, CSh.l81 Sg, CSh.l82 Sg, CSh.l83 Sg, CSh.l84 Sg, CSh.l85 Sg, CSh.l86 Sg, CSh.l87 Sg, CSh.l88 Sg, CSh.l54 Sg, CSh.l55 Sg, CSh.l60 Sg, CSh.l61 Sg, CSh.l64 Sg, CSh.l65 Sg, CSh.l68 Sg, CSh.l69 Sg, CSh.l72 Sg, CSh.l73 Sg, CSh.l90 Sg, CSh.l91 Sg, CSh.p0_0 Sg, CSh.p0_3 Sg, CSh.p0_4 Sg, CSh.p0_5 Sg, CSh.p0_6 Sg, CSh.p0_7 Sg, CSh.p0_8 Sg, CSh.p0_9 Sg, CSh.p0_10 Sg, CSh.p0_14 Sg, CSh.p2_0 Sg, CSh.p26_0 Sg, CSh.p26_13 Sg, CSh.p26_14 Sg, CSh.p31_1 Sg, CSh.p31_3 Sg, CSh.p31_4 Sg, CSh.p62_0 Sg, CSh.p66_0 Sg, CSh.p70_0 Sg, CSh.p74_0 Sg, CSh.p74_1 Sg, CSh.p74_6 Sg, CSh.p74_7 Sg, CSh.p74_10 Sg, CSh.p80_1 Sg, CSh.p80_2 Sg, CSh.p80_3 Sg, CSh.p80_4 Sg, CSh.p80_5 Sg, CSh.p80_6 Sg, CSh.p80_7 Sg, CSh.p80_8 Sg, CSh.p53_1 Sg, CSh.p53_2 Sg, CSh.p59_1 Sg, CSh.p59_2 Sg, CSh.p63_1 Sg, CSh.p63_2 Sg, CSh.p67_1 Sg, CSh.p67_2 Sg, CSh.p71_1 Sg, CSh.p71_2 Sg, CSh.p89_1 Sg, CSh.p89_2 Sg, ea', -Int.reduceToNat, -Int32.reduceToNatClampNeg, il0, il1, il2, il3, il4, il5, il6, il7, il8, il9, il10, il11, il12, il13, il14, il15, il16, il17, il18, il19, il20, il21, il22, il23, il24, il25, il26, il27, il28, il29, il30, il31, il32, il35, il36, il38, il40, il42, il43, il44, il45, il46, il47, il48, il49, il50, il51, il52, il57, il59, il60, il63, il64, il75, il80, il95, il96, il97, il98, il99, il100, il120, il122, il123, il127, il128, il135, il167, il175, il225, il249, il250, il255, il256, il360, il370, il384, il600, il700, il740, il900, il940, il1024, il1600, il4800, il64000, il125000, il262143, il1000000000, iI_toInt, iI_add, iI_sub, iI_mul, iI_neg, iI_lt, iI_le, iI_eq, iI_n, iI_in, iI_div, iI_mod, iI_shm, iI_and1, iI_and7, iI_and63, iI_shr3, iI_shr6, rd_I, ob, Option.some.injEq, exists_eq_left', exists_eq_left, true_and, and_true, fqI, fqJ, eq_self, true_or, or_true, bP_0, bP_0i, npP, bP_1i, bP_b, not_true_eq_false, not_false_eq_true, false_implies, true_implies, implies_true, Classical.not_not, and_self]
    exact ⟨fun _ => K g Fg T O, fun u => by omega⟩
theorem nsD.keep {a' b' : Int} (T : nsD h0 h s a b D) (O : nsO h h' a' b') (h1 : 0 ≤ a ∧ a < b ∧ b < 3) (h2 : 0 ≤ a' ∧ a' < b' ∧ b' < 3) (ne : a ≠ a' ∨ b ≠ b') : nsD h0 h' s a b D := fun p q p0 p1 q0 q1 d => by
  rw [O _ (by omega)]
  exact T p q p0 p1 q0 q1 d
theorem nsD.base (T : nsD h0 h s a b D) (e3 : aJ h1 83 = aJ h0 83) : nsD h1 h s a b D := fun p q p0 p1 q0 q1 d => by
  rw [e3]
  exact T p q p0 p1 q0 q1 d
theorem c_weigh (S : CSh h) (H : LB h la) (L : LR h la s) (hl : la = 5 ∨ la = 32) (pz : aP h 80 0 = some la) (gs : GS s) (hL : WLi s) (fw : few s) (L3 : BL3 h s) (K : ∀ h', Fr [87] [88] [] h h' → NS3 h' s → postV h') : wp_X0_weigh h 80 postV := by
  unfold wp_X0_weigh
  have base : ∀ {g}, Fr [87] [88] [] h g → CSh g ∧ LB g la ∧ LR g la s ∧ aP g 80 0 = some la ∧ BL3 g s ∧ aJ g 83 = aJ h 83 := fun {g} F => ⟨S.gr F.gr, H.gr F.gr (by omega), L.fr F (fun j hj => by simp; omega) (fun j hj => by simp; omega), by rw [F.aPe]; exact pz, L3.cg (F.row (by simp)) (F.row (by simp)) (F.2.2.2.2.2.1 83 (by simp)) (F.row (by simp)), F.2.2.2.2.2.1 83 (by simp)⟩
  have two : ∀ {a b : Int} {g : AH}, 0 ≤ a ∧ a < b ∧ b < 3 → Fr [87] [88] [] h g → ∀ {postV : AH → Prop}, (∀ h', Fr [87] [88] [] h h' → nsD h h' s a b (fun p q => p < cntB s a ∧ q < cntB s b) → nsO g h' a b → postV h') → ob g 80 0 ∧ wp_X0_weighTwo g 80 (iI a) (iI b) postV := fun {a b g} hab F {postV} K => by
    obtain ⟨Sg, Hg, Lg, pg, L3g, e3⟩ := base F
    exact ⟨Sg.o80, c_weighTwo Sg Hg Lg hl pg gs hL fw L3g hab fun h' F' T O => K h' (F.trans F') (T.base e3.symm) O⟩
  have iv : ∀ {x : Int} {v : Int32}, v = iI x + 1 → v = iI (x + 1) := fun {x v} e => by rw [e, show (1 : Int32) = iI 1 from rfl, iI_add]
  have f0 : Fr [87] [88] [] h h := (Fr.refl h).mono (by simp) (by simp) (by simp)
  rw [show (0 : Int32) = iI 0 from rfl]
  refine ⟨4, ?_⟩
  show wb_X0_weigh_2 (wl_X0_weigh_2 postV 3) h 80 (iI 0) postV
  refine ⟨fun u => absurd u (by decide), fun _ v1 e1 => ⟨3, ?_⟩⟩
  rw [iv e1]
  show wb_X0_weigh_11 (wl_X0_weigh_2 postV 3) (wl_X0_weigh_11 (wl_X0_weigh_2 postV 3) postV 2) h 80 (iI 0) (iI 1) postV
  refine ⟨fun u => absurd u (by decide), fun _ => two (a := 0) (b := 1) (by omega) f0 fun g1 F1 T1 O1 v2 e2 => ?_⟩
  rw [iv e2]
  show wb_X0_weigh_11 (wl_X0_weigh_2 postV 3) (wl_X0_weigh_11 (wl_X0_weigh_2 postV 3) postV 1) g1 80 (iI 0) (iI 2) postV
  refine ⟨fun u => absurd u (by decide), fun _ => two (a := 0) (b := 2) (by omega) F1 fun g2 F2 T2 O2 v3 e3 => ?_⟩
  rw [iv e3]
  show wb_X0_weigh_11 (wl_X0_weigh_2 postV 3) (wl_X0_weigh_11 (wl_X0_weigh_2 postV 3) postV 0) g2 80 (iI 0) (iI 3) postV
  refine ⟨fun _ v4 e4 => ?_, fun u => absurd (by decide) u⟩
  rw [iv e4]
  show wb_X0_weigh_2 (wl_X0_weigh_2 postV 2) g2 80 (iI 1) postV
  refine ⟨fun u => absurd u (by decide), fun _ v5 e5 => ⟨2, ?_⟩⟩
  rw [iv e5]
  show wb_X0_weigh_11 (wl_X0_weigh_2 postV 2) (wl_X0_weigh_11 (wl_X0_weigh_2 postV 2) postV 1) g2 80 (iI 1) (iI 2) postV
  refine ⟨fun u => absurd u (by decide), fun _ => two (a := 1) (b := 2) (by omega) F2 fun g3 F3 T3 O3 v6 e6 => ?_⟩
  rw [iv e6]
  show wb_X0_weigh_11 (wl_X0_weigh_2 postV 2) (wl_X0_weigh_11 (wl_X0_weigh_2 postV 2) postV 0) g3 80 (iI 1) (iI 3) postV
  refine ⟨fun _ v7 e7 => ?_, fun u => absurd (by decide) u⟩
  rw [iv e7]
  show wb_X0_weigh_2 (wl_X0_weigh_2 postV 1) g3 80 (iI 2) postV
  refine ⟨fun u => absurd u (by decide), fun _ v8 e8 => ⟨1, ?_⟩⟩
  rw [iv e8]
  show wb_X0_weigh_11 (wl_X0_weigh_2 postV 1) (wl_X0_weigh_11 (wl_X0_weigh_2 postV 1) postV 0) g3 80 (iI 2) (iI 3) postV
  refine ⟨fun _ v9 e9 => ?_, fun u => absurd (by decide) u⟩
  rw [iv e9]
  show wb_X0_weigh_2 (wl_X0_weigh_2 postV 0) g3 80 (iI 3) postV
  refine ⟨fun _ => K g3 F3 fun a b a0 ab b3 => ?_, fun u => absurd (by decide) u⟩
  obtain ⟨_, _, _, _, _, e3⟩ := base F3
  have c : (a = 0 ∧ b = 1) ∨ (a = 0 ∧ b = 2) ∨ (a = 1 ∧ b = 2) := by omega
  rcases c with ⟨rfl, rfl⟩ | ⟨rfl, rfl⟩ | ⟨rfl, rfl⟩
  · exact ((T1.keep O2 (by omega) (by omega) (by omega)).keep O3 (by omega) (by omega) (by omega)).base e3
  · exact (T2.keep O3 (by omega) (by omega) (by omega)).base e3
  · exact T3.base e3
end WEI
