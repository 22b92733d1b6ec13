/-! the model skips signs that part -/
section MSK
variable {h h1 h2 h' h0 g : AH} {postV : AH → Prop} {post : AH → Int32 → Prop} {a b c d r x y n m p q e k i j v w : Int} {T : Int → Int}
theorem MK.put (K : MK T n m h p) (F : Fr [92] [] [] h h') (R : rd h' 92 = updT (rd h 92) j v) (hj : j ≠ 3 ∧ j ≠ 5) : MK T n m h' (rd h' 92 4) := by
  obtain ⟨M, tp, tb, s3, s5, s4, hn, hm⟩ := K
  exact ⟨M.gr F.gr, by rw [F.row (by simp)]; exact tp, tb, by rw [R, updT_n (fun z => hj.1 z.symm)]; exact s3, by rw [R, updT_n (fun z => hj.2 z.symm)]; exact s5, rfl, hn, hm⟩
/-- where the model's skip ends -/
noncomputable def skM (T : Int → Int) (n p : Int) : Int := fz (fun i => ¬ whC (T i)) (n - p).toNat p
theorem skM_spec (h1 : p ≤ n) : (p ≤ skM T n p ∧ skM T n p ≤ n) ∧ (∀ j, p ≤ j → j < skM T n p → whC (T j)) ∧ (skM T n p < n → ¬ whC (T (skM T n p))) := by
  obtain ⟨⟨s1, s2⟩, s3, s4⟩ := fz_spec (P := fun i => ¬ whC (T i)) (n - p).toNat p
  have hE : fz (fun i => ¬ whC (T i)) (n - p).toNat p = skM T n p := rfl
  rw [hE] at s1 s2 s3 s4
  exact ⟨⟨s1, by omega⟩, fun j j1 j2 => Classical.not_not.mp (s3 j j1 j2), fun u => s4 (by omega)⟩
theorem pk_wh (hb : -128 ≤ T p ∧ T p ≤ 127) : (pk T n p = 32 ∨ pk T n p = 10) ↔ p < n ∧ whC (T p) := by
  unfold pk whC
  by_cases c : n ≤ p
  · rw [if_pos c]; omega
  · rw [if_neg c]; omega
/-- after the skip: where the TOKEN begins is noted -/
theorem m_skip (R : MK T n m h p) (hp : 0 ≤ p ∧ p ≤ n) (K : ∀ h', Fr [92] [] [] h h' → MK T n m h' (skM T n p) → rd h' 92 12 = skM T n p → rd h' 92 13 = 0 → (∀ j, j ≠ 4 → j ≠ 12 → j ≠ 13 → rd h' 92 j = rd h 92 j) → (n ≤ m ∨ skM T n p < m) → wb_X12_next_80 h' 92 postV) (KE : ¬ (n ≤ m ∨ skM T n p < m) → ∀ h', Fr [92] [] [] h h' → MK T n m h' (skM T n p) → rd h' 92 12 = m → rd h' 92 11 = 4 → (∀ j, j ≠ 4 → j ≠ 11 → j ≠ 12 → j ≠ 13 → rd h' 92 j = rd h 92 j) → postV h') : wp_X12_next h 92 postV := by
  obtain ⟨⟨s1, s2⟩, s3, s4⟩ := skM_spec (T := T) hp.2
  generalize hq : skM T n p = q at s1 s2 s3 s4 K KE
  have hn := R.hn
  have hm := R.hm
  have loop : ∀ (dd : Nat) (g : AH) (i : Int), i + dd = q → p ≤ i → Fr [92] [] [] h g → MK T n m g i → (∀ j, j ≠ 4 → rd g 92 j = rd h 92 j) → wl_X12_next_0 postV (dd + 1) g 92 := by
    intro dd
    induction dd with
    | zero =>
      intro g i hi pi F R rest
      have ei : i = q := by omega
      subst ei
      show wb_X12_next_0 (wl_X12_next_0 postV 0) g 92 postV
      have nw : ¬ (pk T n i = 32 ∨ pk T n i = 10) := fun u => by
        have v := (pk_wh (R.tb i)).mp u
        exact s4 v.1 v.2
      have pb : -1 ≤ pk T n i ∧ pk T n i ≤ 255 := by unfold pk; split <;> omega
      have M := R.M
      have g4 := R.s4
      unfold wb_X12_next_0
      simp (disch := omega) only [MSh.o0 M, MSh.p1 M, MSh.o1 M, MSh.l1 M, MSh.p6 M, MSh.o2 M, MSh.l2 M, MSh.p7 M, MSh.o3 M, MSh.l3 M, MSh.p8 M, MSh.o4 M, MSh.l4 M, MSh.p9 M, MSh.o5 M, MSh.l5 M, MSh.p10 M, MSh.o6 M, MSh.l6 M, MSh.p24 M, MSh.o7 M, MSh.l7 M, MSh.p25 M, MSh.o8 M, MSh.l8 M, MSh.p26 M, MSh.o9 M, MSh.l9 M, MSh.p32 M, MSh.o10 M, MSh.l10 M, MSh.p33 M, MSh.o11 M, MSh.l11 M, MSh.p35 M, MSh.o12 M, MSh.l12 M, MSh.p36 M, MSh.o13 M, MSh.l13 M, MSh.p37 M, MSh.o14 M, MSh.l14 M, MSh.p38 M, MSh.o15 M, MSh.l15 M, MSh.p39 M, MSh.o16 M, MSh.l16 M, MSh.p42 M, MSh.o17 M, MSh.l17 M, MSh.p43 M, MSh.o18 M, MSh.l18 M, MSh.p44 M, MSh.o19 M, MSh.l19 M, MSh.p45 M, MSh.o20 M, MSh.l20 M, MSh.p46 M, MSh.o21 M, MSh.l21 M, MSh.p47 M, MSh.o22 M, MSh.l22 M, MSh.p50 M, MSh.o23 M, MSh.l23 M, MSh.p51 M, MSh.o24 M, MSh.l24 M, MSh.p52 M, MSh.o25 M, MSh.l25 M, m_peek R (by omega) (by omega), fd0, fd1, fd2, fd3, fd4, fd5, fd6, fd7, fd8, fd9, fd10, fd11, fd12, fd13, fd14, fd15, fd16, fd17, fd18, fd19, fd20, fd21, fd22, fd23, fd24, fd25, fd26, fd27, fd28, fd29, fd30, fd31, fd32, fd33, fd34, fd35, fd36, fd37, fd38, fd39, fd40, fd41, fd42, fd43, fd44, fd45, fd46, fd47, fd48, fd49, fd50, fd51, fd52, g4, -Int.reduceToNat, -Int32.reduceToNatClampNeg, il0, il1, il2, il3, il4, il5, il6, il7, il8, il9, il10, il11, il12, il13, il14, il15, il16, il17, il18, il19, il20, il21, il22, il23, il24, il25, il26, il27, il28, il29, il30, il31, il32, il35, il36, il38, il40, il42, il43, il44, il45, il46, il47, il48, il49, il50, il51, il52, il57, il59, il60, il63, il64, il75, il80, il95, il96, il97, il98, il99, il100, il120, il122, il123, il127, il128, il135, il167, il175, il225, il249, il250, il255, il256, il360, il370, il384, il600, il700, il740, il900, il940, il1024, il1600, il4800, il64000, il125000, il262143, il1000000000, iI_toInt, iI_add, iI_sub, iI_mul, iI_neg, iI_lt, iI_le, iI_eq, iI_n, iI_in, iI_div, iI_mod, iI_shm, iI_and1, iI_and7, iI_and63, iI_shr3, iI_shr6, rd_I, ob, Option.some.injEq, exists_eq_left', exists_eq_left, true_and, and_true, fqI, fqJ, eq_self, true_or, or_true, bP_0, bP_0i, npP, bP_1i, bP_b, not_true_eq_false, not_false_eq_true, false_implies, true_implies, implies_true, Classical.not_not, and_self, cP, cP', ite_n]
      rw [ite_f (fun u => nw (Or.inl u)), ite_f (fun u => nw (Or.inr u))]
      intro g1 e1
      obtain ⟨f1, r1⟩ := wI (i := 12) (by omega) (by omega) (by omega) e1
      have R1 := R.put f1 r1 (by omega)
      refine ⟨R1.M.o0, fun g2 e2 => ?_⟩
      obtain ⟨f2, r2⟩ := wI (i := 13) (by omega) (by omega) (by omega) e2
      have R2 := R1.put f2 r2 (by omega)
      have q4 : rd g2 92 4 = i := by rw [r2, updT_n (by omega), r1, updT_n (by omega), g4]
      rw [q4] at R2
      have F2 := F.trans (f1.trans f2)
      have q12 : rd g2 92 12 = i := by rw [r2, updT_n (by omega), r1, updT_s]
      have rs : ∀ j, j ≠ 4 → j ≠ 12 → j ≠ 13 → rd g2 92 j = rd h 92 j := fun j j1 j2 j3 => by rw [r2, updT_n j3, r1, updT_n j2]; exact rest j j1
      have K0 := K g2 F2 R2 q12 (by rw [r2, updT_s]) rs
      have M2 := R2.M
      have o2 : aK g2 92 = 11 ∧ 92 < aN g2 := M2.o0
      refine ⟨o2, o2, ?_⟩
      rw [R2.s3, R2.s5, R2.s4, iI_le (by omega) (by omega) (by omega) (by omega)]
      by_cases cn : n ≤ m
      · rw [ite_t cn]; exact K0 (Or.inl cn)
      rw [ite_f cn]
      refine ⟨o2, o2, ?_⟩
      rw [iI_lt (by omega) (by omega) (by omega) (by omega)]
      by_cases cq : i < m
      · rw [ite_t cq]; exact K0 (Or.inr cq)
      rw [ite_f cq]
      refine ⟨o2, o2, fun g3 e3 => ?_⟩
      obtain ⟨f3, r3⟩ := wI (i := 12) (by omega) (by omega) (by omega) e3
      have R3 := R2.put f3 r3 (by omega)
      refine ⟨R3.M.o0, fun g4' e4 => ?_⟩
      obtain ⟨f4, r4⟩ := wI (i := 11) (by omega) (by omega) (by omega) e4
      have R4 := R3.put f4 r4 (by omega)
      rw [show rd g4' 92 4 = i by rw [r4, updT_n (by omega), r3, updT_n (by omega), q4]] at R4
      exact KE (by omega) g4' (F2.trans (f3.trans f4)) R4 (by rw [r4, updT_n (by omega), r3, updT_s]) (by rw [r4, updT_s]) (fun j j1 j2 j3 j4 => by rw [r4, updT_n j2, r3, updT_n j3]; exact rs j j1 j3 j4)
    | succ dd ih =>
      intro g i hi pi F R rest
      show wb_X12_next_0 (wl_X12_next_0 postV (dd + 1)) g 92 postV
      have wh := s3 i pi (by omega)
      have yw := (pk_wh (n := n) (R.tb i)).mpr ⟨by omega, wh⟩
      have pb : -1 ≤ pk T n i ∧ pk T n i ≤ 255 := by unfold pk; split <;> omega
      have M := R.M
      have g4 := R.s4
      have fin : wb_X12_next_18 (wl_X12_next_0 postV (dd + 1)) g 92 postV := by
        unfold wb_X12_next_18
        simp (disch := omega) only [MSh.o0 M, MSh.p1 M, MSh.o1 M, MSh.l1 M, MSh.p6 M, MSh.o2 M, MSh.l2 M, MSh.p7 M, MSh.o3 M, MSh.l3 M, MSh.p8 M, MSh.o4 M, MSh.l4 M, MSh.p9 M, MSh.o5 M, MSh.l5 M, MSh.p10 M, MSh.o6 M, MSh.l6 M, MSh.p24 M, MSh.o7 M, MSh.l7 M, MSh.p25 M, MSh.o8 M, MSh.l8 M, MSh.p26 M, MSh.o9 M, MSh.l9 M, MSh.p32 M, MSh.o10 M, MSh.l10 M, MSh.p33 M, MSh.o11 M, MSh.l11 M, MSh.p35 M, MSh.o12 M, MSh.l12 M, MSh.p36 M, MSh.o13 M, MSh.l13 M, MSh.p37 M, MSh.o14 M, MSh.l14 M, MSh.p38 M, MSh.o15 M, MSh.l15 M, MSh.p39 M, MSh.o16 M, MSh.l16 M, MSh.p42 M, MSh.o17 M, MSh.l17 M, MSh.p43 M, MSh.o18 M, MSh.l18 M, MSh.p44 M, MSh.o19 M, MSh.l19 M, MSh.p45 M, MSh.o20 M, MSh.l20 M, MSh.p46 M, MSh.o21 M, MSh.l21 M, MSh.p47 M, MSh.o22 M, MSh.l22 M, MSh.p50 M, MSh.o23 M, MSh.l23 M, MSh.p51 M, MSh.o24 M, MSh.l24 M, MSh.p52 M, MSh.o25 M, MSh.l25 M, fd0, fd1, fd2, fd3, fd4, fd5, fd6, fd7, fd8, fd9, fd10, fd11, fd12, fd13, fd14, fd15, fd16, fd17, fd18, fd19, fd20, fd21, fd22, fd23, fd24, fd25, fd26, fd27, fd28, fd29, fd30, fd31, fd32, fd33, fd34, fd35, fd36, fd37, fd38, fd39, fd40, fd41, fd42, fd43, fd44, fd45, fd46, fd47, fd48, fd49, fd50, fd51, fd52, g4, -Int.reduceToNat, -Int32.reduceToNatClampNeg, il0, il1, il2, il3, il4, il5, il6, il7, il8, il9, il10, il11, il12, il13, il14, il15, il16, il17, il18, il19, il20, il21, il22, il23, il24, il25, il26, il27, il28, il29, il30, il31, il32, il35, il36, il38, il40, il42, il43, il44, il45, il46, il47, il48, il49, il50, il51, il52, il57, il59, il60, il63, il64, il75, il80, il95, il96, il97, il98, il99, il100, il120, il122, il123, il127, il128, il135, il167, il175, il225, il249, il250, il255, il256, il360, il370, il384, il600, il700, il740, il900, il940, il1024, il1600, il4800, il64000, il125000, il262143, il1000000000, iI_toInt, iI_add, iI_sub, iI_mul, iI_neg, iI_lt, iI_le, iI_eq, iI_n, iI_in, iI_div, iI_mod, iI_shm, iI_and1, iI_and7, iI_and63, iI_shr3, iI_shr6, rd_I, ob, Option.some.injEq, exists_eq_left', exists_eq_left, true_and, and_true, fqI, fqJ, eq_self, true_or, or_true, bP_0, bP_0i, npP, bP_1i, bP_b, not_true_eq_false, not_false_eq_true, false_implies, true_implies, implies_true, Classical.not_not, and_self]
        intro g1 e1
        obtain ⟨f1, r1⟩ := wI (i := 4) (by omega) (by omega) (by omega) e1
        have R1 := R.put f1 r1 (by omega)
        rw [show rd g1 92 4 = i + 1 by rw [r1, updT_s]] at R1
        exact ih g1 (i + 1) (by omega) (by omega) (F.trans f1) R1 (fun j hj => by rw [r1, updT_n hj]; exact rest j hj)
      unfold wb_X12_next_0
      simp (disch := omega) only [MSh.o0 M, MSh.p1 M, MSh.o1 M, MSh.l1 M, MSh.p6 M, MSh.o2 M, MSh.l2 M, MSh.p7 M, MSh.o3 M, MSh.l3 M, MSh.p8 M, MSh.o4 M, MSh.l4 M, MSh.p9 M, MSh.o5 M, MSh.l5 M, MSh.p10 M, MSh.o6 M, MSh.l6 M, MSh.p24 M, MSh.o7 M, MSh.l7 M, MSh.p25 M, MSh.o8 M, MSh.l8 M, MSh.p26 M, MSh.o9 M, MSh.l9 M, MSh.p32 M, MSh.o10 M, MSh.l10 M, MSh.p33 M, MSh.o11 M, MSh.l11 M, MSh.p35 M, MSh.o12 M, MSh.l12 M, MSh.p36 M, MSh.o13 M, MSh.l13 M, MSh.p37 M, MSh.o14 M, MSh.l14 M, MSh.p38 M, MSh.o15 M, MSh.l15 M, MSh.p39 M, MSh.o16 M, MSh.l16 M, MSh.p42 M, MSh.o17 M, MSh.l17 M, MSh.p43 M, MSh.o18 M, MSh.l18 M, MSh.p44 M, MSh.o19 M, MSh.l19 M, MSh.p45 M, MSh.o20 M, MSh.l20 M, MSh.p46 M, MSh.o21 M, MSh.l21 M, MSh.p47 M, MSh.o22 M, MSh.l22 M, MSh.p50 M, MSh.o23 M, MSh.l23 M, MSh.p51 M, MSh.o24 M, MSh.l24 M, MSh.p52 M, MSh.o25 M, MSh.l25 M, m_peek R (by omega) (by omega), -Int.reduceToNat, -Int32.reduceToNatClampNeg, il0, il1, il2, il3, il4, il5, il6, il7, il8, il9, il10, il11, il12, il13, il14, il15, il16, il17, il18, il19, il20, il21, il22, il23, il24, il25, il26, il27, il28, il29, il30, il31, il32, il35, il36, il38, il40, il42, il43, il44, il45, il46, il47, il48, il49, il50, il51, il52, il57, il59, il60, il63, il64, il75, il80, il95, il96, il97, il98, il99, il100, il120, il122, il123, il127, il128, il135, il167, il175, il225, il249, il250, il255, il256, il360, il370, il384, il600, il700, il740, il900, il940, il1024, il1600, il4800, il64000, il125000, il262143, il1000000000, iI_toInt, iI_add, iI_sub, iI_mul, iI_neg, iI_lt, iI_le, iI_eq, iI_n, iI_in, iI_div, iI_mod, iI_shm, iI_and1, iI_and7, iI_and63, iI_shr3, iI_shr6, rd_I, ob, Option.some.injEq, exists_eq_left', exists_eq_left, true_and, and_true, fqI, fqJ, eq_self, true_or, or_true, bP_0, bP_0i, npP, bP_1i, bP_b, not_true_eq_false, not_false_eq_true, false_implies, true_implies, implies_true, Classical.not_not, and_self, cP, cP', ite_n]
      by_cases c : pk T n i = 32
      · rw [ite_t c]; exact fin
      · rw [ite_f c, ite_t (yw.elim (fun u => absurd u c) id)]; exact fin
  exact ⟨_, loop (q - p).toNat h p (by omega) (Int.le_refl _) ((Fr.refl h).mono (by simp) (by simp) (by simp)) R (fun _ _ => rfl)⟩
end MSK
