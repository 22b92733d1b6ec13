/-! ALL WANTS in the model -/
def fsT (s t z : Int → Int) (d : Int) : Prop := insT s t z d ∧ (∀ o, 0 ≤ o → o < d → ¬ overT t z d o) ∧ ∀ k, 0 ≤ k → k < s 4 → ¬ (((s (135 + 4 * k) = d ∧ s (135 + 4 * k + 1) < d) ∨ (s (135 + 4 * k + 1) = d ∧ s (135 + 4 * k) < d)) ∧ s (135 + 4 * k + 2) < gapT t z (s (135 + 4 * k)) (s (135 + 4 * k + 1)))
section MAL
variable {h h1 h2 h' h0 g0 g : AH} {postV : AH → Prop} {post : AH → Int32 → Prop} {a b c d f i j k v w x y pl r hr how gl goal most st u p o n N C : Int} {s t t' t0 z T T' : Int → Int} {S : BS}
theorem m_fits (M : MSh h) (gs : GS (rd h 94)) (d0 : 0 ≤ d) (d1 : d < rd h 94 2) (hA : ∀ o, 0 ≤ o → o ≤ d → RBd (rd h 99) (rd h 100) o) : wp_X12_fitsSoFar h 92 (iI d) post ↔ post h (bP (fsT (rd h 94) (rd h 99) (rd h 100) d)) := by
  obtain ⟨⟨hS, n0, n1, n2, n3, n4, n5, hK, hW⟩, hD, hPo, hNe⟩ := gs
  have s0 := hS 0 (by omega) (by omega)
  have s1 := hS 1 (by omega) (by omega)
  have s4 := hS 4 (by omega) (by omega)
  have d8 : d < 8 := by omega
  unfold wp_X12_fitsSoFar
  rw [show (0 : Int32) = iI 0 from rfl, m_isInside M d0 d8 (hA d d0 (Int.le_refl _)) s0.1 n0 s1.1 n1]
  have o11 := M.o0
  -- the ropes
  have ropes : (∃ n, wl_X12_fitsSoFar_36 post n h 92 (iI d) (iI 0)) ↔ post h (bP (∀ k, 0 ≤ k → k < rd h 94 4 → ¬ (((rd h 94 (135 + 4 * k) = d ∧ rd h 94 (135 + 4 * k + 1) < d) ∨ (rd h 94 (135 + 4 * k + 1) = d ∧ rd h 94 (135 + 4 * k) < d)) ∧ rd h 94 (135 + 4 * k + 2) < gapT (rd h 99) (rd h 100) (rd h 94 (135 + 4 * k)) (rd h 94 (135 + 4 * k + 1))))) := by
    refine lp_all (W := fun n k => wl_X12_fitsSoFar_36 post n h 92 (iI d) (iI k)) (lo := 0) (hi := rd h 94 4) s4.1 (fun i q => q) (fun n k k0 k1 => ?_) (fun n => ?_)
    · show wb_X12_fitsSoFar_36 (wl_X12_fitsSoFar_36 post n) h 92 (iI d) (iI k) post ↔ _
      have b0 := hS (135 + 4 * k) (by omega) (by omega)
      have b1 := hS (135 + 4 * k + 1) (by omega) (by omega)
      have b2 := hS (135 + 4 * k + 2) (by omega) (by omega)
      obtain ⟨⟨k2, k3⟩, k4, k5⟩ := hK k k0 k1
      have ne := hNe k k0 k1
      have c131 : wb_X12_fitsSoFar_131 (wl_X12_fitsSoFar_36 post n) h 92 (iI d) (iI k) post ↔ wl_X12_fitsSoFar_36 post n h 92 (iI d) (iI (k + 1)) := by
        unfold wb_X12_fitsSoFar_131
        simp (disch := omega) only [-Int.reduceToNat, -Int32.reduceToNatClampNeg, il0, il1, il2, il3, il4, il5, il6, il7, il8, il9, il10, il11, il12, il13, il14, il15, il16, il17, il18, il19, il20, il21, il22, il23, il24, il25, il26, il27, il28, il29, il30, il31, il32, il35, il36, il38, il40, il42, il43, il44, il45, il46, il47, il48, il49, il50, il51, il52, il57, il59, il60, il63, il64, il75, il80, il95, il96, il97, il98, il99, il100, il120, il122, il123, il127, il128, il135, il167, il175, il225, il249, il250, il255, il256, il360, il370, il384, il600, il700, il740, il900, il940, il1024, il1600, il4800, il64000, il125000, il262143, il1000000000, iI_toInt, iI_add, iI_sub, iI_mul, iI_neg, iI_lt, iI_le, iI_eq, iI_n, iI_in, iI_div, iI_mod, iI_shm, iI_and1, iI_and7, iI_and63, iI_shr3, iI_shr6, rd_I, ob, Option.some.injEq, exists_eq_left', exists_eq_left, true_and, and_true, fqI, fqJ, eq_self, true_or, or_true, bP_0, bP_0i, npP, bP_1i, bP_b, not_true_eq_false, not_false_eq_true, false_implies, true_implies, implies_true, Classical.not_not, and_self]
      have c97 : ∀ x, 0 ≤ x → x ≤ 9 → (x < d → rd h 94 (135 + 4 * k) ≤ d ∧ rd h 94 (135 + 4 * k + 1) ≤ d) → (wb_X12_fitsSoFar_97 (wl_X12_fitsSoFar_36 post n) h 92 (iI d) (iI k) (iI (rd h 94 (135 + 4 * k))) (iI (rd h 94 (135 + 4 * k + 1))) (iI x) post ↔ iteP (x < d ∧ rd h 94 (135 + 4 * k + 2) < gapT (rd h 99) (rd h 100) (rd h 94 (135 + 4 * k)) (rd h 94 (135 + 4 * k + 1))) (post h (iI 0)) (wl_X12_fitsSoFar_36 post n h 92 (iI d) (iI (k + 1)))) := fun x x0 x1 hx => by
        unfold wb_X12_fitsSoFar_97
        rw [c131]
        by_cases c : x < d
        · have hO := hA _ k2 (hx c).1
          have hO' := hA _ k4 (hx c).2
          have g := gapT_bd hO hO'
          simp (disch := omega) only [MSh.o0 M, MSh.p1 M, MSh.o1 M, MSh.l1 M, MSh.p6 M, MSh.o2 M, MSh.l2 M, MSh.p7 M, MSh.o3 M, MSh.l3 M, MSh.p8 M, MSh.o4 M, MSh.l4 M, MSh.p9 M, MSh.o5 M, MSh.l5 M, MSh.p10 M, MSh.o6 M, MSh.l6 M, MSh.p24 M, MSh.o7 M, MSh.l7 M, MSh.p25 M, MSh.o8 M, MSh.l8 M, MSh.p26 M, MSh.o9 M, MSh.l9 M, MSh.p32 M, MSh.o10 M, MSh.l10 M, MSh.p33 M, MSh.o11 M, MSh.l11 M, MSh.p35 M, MSh.o12 M, MSh.l12 M, MSh.p36 M, MSh.o13 M, MSh.l13 M, MSh.p37 M, MSh.o14 M, MSh.l14 M, MSh.p38 M, MSh.o15 M, MSh.l15 M, MSh.p39 M, MSh.o16 M, MSh.l16 M, MSh.p42 M, MSh.o17 M, MSh.l17 M, MSh.p43 M, MSh.o18 M, MSh.l18 M, MSh.p44 M, MSh.o19 M, MSh.l19 M, MSh.p45 M, MSh.o20 M, MSh.l20 M, MSh.p46 M, MSh.o21 M, MSh.l21 M, MSh.p47 M, MSh.o22 M, MSh.l22 M, MSh.p50 M, MSh.o23 M, MSh.l23 M, MSh.p51 M, MSh.o24 M, MSh.l24 M, MSh.p52 M, MSh.o25 M, MSh.l25 M, m_gapOf M k2 (show rd h 94 (135 + 4 * k) < 8 by omega) hO k4 (show rd h 94 (135 + 4 * k + 1) < 8 by omega) hO', c131, -Int.reduceToNat, -Int32.reduceToNatClampNeg, il0, il1, il2, il3, il4, il5, il6, il7, il8, il9, il10, il11, il12, il13, il14, il15, il16, il17, il18, il19, il20, il21, il22, il23, il24, il25, il26, il27, il28, il29, il30, il31, il32, il35, il36, il38, il40, il42, il43, il44, il45, il46, il47, il48, il49, il50, il51, il52, il57, il59, il60, il63, il64, il75, il80, il95, il96, il97, il98, il99, il100, il120, il122, il123, il127, il128, il135, il167, il175, il225, il249, il250, il255, il256, il360, il370, il384, il600, il700, il740, il900, il940, il1024, il1600, il4800, il64000, il125000, il262143, il1000000000, iI_toInt, iI_add, iI_sub, iI_mul, iI_neg, iI_lt, iI_le, iI_eq, iI_n, iI_in, iI_div, iI_mod, iI_shm, iI_and1, iI_and7, iI_and63, iI_shr3, iI_shr6, rd_I, ob, Option.some.injEq, exists_eq_left', exists_eq_left, true_and, and_true, fqI, fqJ, eq_self, true_or, or_true, bP_0, bP_0i, npP, bP_1i, bP_b, not_true_eq_false, not_false_eq_true, false_implies, true_implies, implies_true, Classical.not_not, and_self]
          by_cases c3 : gapT (rd h 99) (rd h 100) (rd h 94 (135 + 4 * k)) (rd h 94 (135 + 4 * k + 1)) ≤ rd h 94 (135 + 4 * k + 2)
          · rw [ite_f (fun q => by omega)]
            exact ⟨fun u => (u.2 (by omega)).1 c3, fun u => ⟨fun q => by omega, fun _ => ⟨fun _ => u, fun q => absurd c3 q⟩⟩⟩
          · rw [ite_t ⟨c, by omega⟩]
            exact ⟨fun u => (u.2 (by omega)).2 c3, fun u => ⟨fun q => by omega, fun _ => ⟨fun q => absurd q c3, fun _ => u⟩⟩⟩
        · rw [ite_f (fun q => c q.1), iI_le (by omega) (by omega) (by omega) (by omega)]
          exact ⟨fun u => u.1 (by omega), fun u => ⟨fun _ => u, fun q => by omega⟩⟩
      have c97a := c97 (rd h 94 (135 + 4 * k)) (by omega) (by omega)
      have c97b := c97 (rd h 94 (135 + 4 * k + 1)) (by omega) (by omega)
      have c979 := c97 9 (by omega) (by omega) (fun q => by omega)
      unfold wb_X12_fitsSoFar_36
      simp (disch := omega) only [MSh.o0 M, MSh.p1 M, MSh.o1 M, MSh.l1 M, MSh.p6 M, MSh.o2 M, MSh.l2 M, MSh.p7 M, MSh.o3 M, MSh.l3 M, MSh.p8 M, MSh.o4 M, MSh.l4 M, MSh.p9 M, MSh.o5 M, MSh.l5 M, MSh.p10 M, MSh.o6 M, MSh.l6 M, MSh.p24 M, MSh.o7 M, MSh.l7 M, MSh.p25 M, MSh.o8 M, MSh.l8 M, MSh.p26 M, MSh.o9 M, MSh.l9 M, MSh.p32 M, MSh.o10 M, MSh.l10 M, MSh.p33 M, MSh.o11 M, MSh.l11 M, MSh.p35 M, MSh.o12 M, MSh.l12 M, MSh.p36 M, MSh.o13 M, MSh.l13 M, MSh.p37 M, MSh.o14 M, MSh.l14 M, MSh.p38 M, MSh.o15 M, MSh.l15 M, MSh.p39 M, MSh.o16 M, MSh.l16 M, MSh.p42 M, MSh.o17 M, MSh.l17 M, MSh.p43 M, MSh.o18 M, MSh.l18 M, MSh.p44 M, MSh.o19 M, MSh.l19 M, MSh.p45 M, MSh.o20 M, MSh.l20 M, MSh.p46 M, MSh.o21 M, MSh.l21 M, MSh.p47 M, MSh.o22 M, MSh.l22 M, MSh.p50 M, MSh.o23 M, MSh.l23 M, MSh.p51 M, MSh.o24 M, MSh.l24 M, MSh.p52 M, MSh.o25 M, MSh.l25 M, -Int.reduceToNat, -Int32.reduceToNatClampNeg, il0, il1, il2, il3, il4, il5, il6, il7, il8, il9, il10, il11, il12, il13, il14, il15, il16, il17, il18, il19, il20, il21, il22, il23, il24, il25, il26, il27, il28, il29, il30, il31, il32, il35, il36, il38, il40, il42, il43, il44, il45, il46, il47, il48, il49, il50, il51, il52, il57, il59, il60, il63, il64, il75, il80, il95, il96, il97, il98, il99, il100, il120, il122, il123, il127, il128, il135, il167, il175, il225, il249, il250, il255, il256, il360, il370, il384, il600, il700, il740, il900, il940, il1024, il1600, il4800, il64000, il125000, il262143, il1000000000, iI_toInt, iI_add, iI_sub, iI_mul, iI_neg, iI_lt, iI_le, iI_eq, iI_n, iI_in, iI_div, iI_mod, iI_shm, iI_and1, iI_and7, iI_and63, iI_shr3, iI_shr6, rd_I, ob, Option.some.injEq, exists_eq_left', exists_eq_left, true_and, and_true, fqI, fqJ, eq_self, true_or, or_true, bP_0, bP_0i, npP, bP_1i, bP_b, not_true_eq_false, not_false_eq_true, false_implies, true_implies, implies_true, Classical.not_not, and_self]
      by_cases ca : rd h 94 (135 + 4 * k) = d
      · rw [c97b (fun q => by omega)]
        refine ⟨fun u => ?_, fun u => ⟨fun q => by omega, fun _ => ⟨fun q => absurd ca q, fun _ => ?_⟩⟩⟩
        · have v := (u.2 (by omega)).2 ca
          rw [ite_c (d := ((rd h 94 (135 + 4 * k) = d ∧ rd h 94 (135 + 4 * k + 1) < d) ∨ (rd h 94 (135 + 4 * k + 1) = d ∧ rd h 94 (135 + 4 * k) < d)) ∧ rd h 94 (135 + 4 * k + 2) < gapT (rd h 99) (rd h 100) (rd h 94 (135 + 4 * k)) (rd h 94 (135 + 4 * k + 1))) (by omega)] at v
          exact v
        · rw [ite_c (d := ((rd h 94 (135 + 4 * k) = d ∧ rd h 94 (135 + 4 * k + 1) < d) ∨ (rd h 94 (135 + 4 * k + 1) = d ∧ rd h 94 (135 + 4 * k) < d)) ∧ rd h 94 (135 + 4 * k + 2) < gapT (rd h 99) (rd h 100) (rd h 94 (135 + 4 * k)) (rd h 94 (135 + 4 * k + 1))) (by omega)]
          exact u
      by_cases cb : rd h 94 (135 + 4 * k + 1) = d
      · rw [c97a (fun q => by omega)]
        refine ⟨fun u => ?_, fun u => ⟨fun q => by omega, fun _ => ⟨fun _ => ⟨fun q => absurd cb q, fun _ => ?_⟩, fun q => absurd q ca⟩⟩⟩
        · have v := ((u.2 (by omega)).1 ca).2 cb
          rw [ite_c (d := ((rd h 94 (135 + 4 * k) = d ∧ rd h 94 (135 + 4 * k + 1) < d) ∨ (rd h 94 (135 + 4 * k + 1) = d ∧ rd h 94 (135 + 4 * k) < d)) ∧ rd h 94 (135 + 4 * k + 2) < gapT (rd h 99) (rd h 100) (rd h 94 (135 + 4 * k)) (rd h 94 (135 + 4 * k + 1))) (by omega)] at v
          exact v
        · rw [ite_c (d := ((rd h 94 (135 + 4 * k) = d ∧ rd h 94 (135 + 4 * k + 1) < d) ∨ (rd h 94 (135 + 4 * k + 1) = d ∧ rd h 94 (135 + 4 * k) < d)) ∧ rd h 94 (135 + 4 * k + 2) < gapT (rd h 99) (rd h 100) (rd h 94 (135 + 4 * k)) (rd h 94 (135 + 4 * k + 1))) (by omega)]
          exact u
      · rw [c979, ite_f (c := 9 < d ∧ _) (fun q => by omega), ite_f (c := _ ∧ _) (fun q => by omega)]
        exact ⟨fun u => ((u.2 (by omega)).1 ca).1 cb, fun u => ⟨fun q => by omega, fun _ => ⟨fun _ => ⟨fun _ => u, fun q => absurd q cb⟩, fun q => absurd q ca⟩⟩⟩
    · show wb_X12_fitsSoFar_36 (wl_X12_fitsSoFar_36 post n) h 92 (iI d) (iI (rd h 94 4)) post ↔ _
      unfold wb_X12_fitsSoFar_36
      simp (disch := omega) only [MSh.o0 M, MSh.p1 M, MSh.o1 M, MSh.l1 M, MSh.p6 M, MSh.o2 M, MSh.l2 M, MSh.p7 M, MSh.o3 M, MSh.l3 M, MSh.p8 M, MSh.o4 M, MSh.l4 M, MSh.p9 M, MSh.o5 M, MSh.l5 M, MSh.p10 M, MSh.o6 M, MSh.l6 M, MSh.p24 M, MSh.o7 M, MSh.l7 M, MSh.p25 M, MSh.o8 M, MSh.l8 M, MSh.p26 M, MSh.o9 M, MSh.l9 M, MSh.p32 M, MSh.o10 M, MSh.l10 M, MSh.p33 M, MSh.o11 M, MSh.l11 M, MSh.p35 M, MSh.o12 M, MSh.l12 M, MSh.p36 M, MSh.o13 M, MSh.l13 M, MSh.p37 M, MSh.o14 M, MSh.l14 M, MSh.p38 M, MSh.o15 M, MSh.l15 M, MSh.p39 M, MSh.o16 M, MSh.l16 M, MSh.p42 M, MSh.o17 M, MSh.l17 M, MSh.p43 M, MSh.o18 M, MSh.l18 M, MSh.p44 M, MSh.o19 M, MSh.l19 M, MSh.p45 M, MSh.o20 M, MSh.l20 M, MSh.p46 M, MSh.o21 M, MSh.l21 M, MSh.p47 M, MSh.o22 M, MSh.l22 M, MSh.p50 M, MSh.o23 M, MSh.l23 M, MSh.p51 M, MSh.o24 M, MSh.l24 M, MSh.p52 M, MSh.o25 M, MSh.l25 M, -Int.reduceToNat, -Int32.reduceToNatClampNeg, il0, il1, il2, il3, il4, il5, il6, il7, il8, il9, il10, il11, il12, il13, il14, il15, il16, il17, il18, il19, il20, il21, il22, il23, il24, il25, il26, il27, il28, il29, il30, il31, il32, il35, il36, il38, il40, il42, il43, il44, il45, il46, il47, il48, il49, il50, il51, il52, il57, il59, il60, il63, il64, il75, il80, il95, il96, il97, il98, il99, il100, il120, il122, il123, il127, il128, il135, il167, il175, il225, il249, il250, il255, il256, il360, il370, il384, il600, il700, il740, il900, il940, il1024, il1600, il4800, il64000, il125000, il262143, il1000000000, iI_toInt, iI_add, iI_sub, iI_mul, iI_neg, iI_lt, iI_le, iI_eq, iI_n, iI_in, iI_div, iI_mod, iI_shm, iI_and1, iI_and7, iI_and63, iI_shr3, iI_shr6, rd_I, ob, Option.some.injEq, exists_eq_left', exists_eq_left, true_and, and_true, fqI, fqJ, eq_self, true_or, or_true, bP_0, bP_0i, npP, bP_1i, bP_b, not_true_eq_false, not_false_eq_true, false_implies, true_implies, implies_true, Classical.not_not, and_self]
      exact ⟨fun u => u.1 (by omega), fun u => ⟨fun _ => u, fun q => by omega⟩⟩
  have lower : (∃ n, wl_X12_fitsSoFar_12 post n h 92 (iI d) (iI 0)) ↔ iteP (∃ o, 0 ≤ o ∧ o < d ∧ overT (rd h 99) (rd h 100) d o) (post h (iI 0)) (∃ n, wl_X12_fitsSoFar_36 post n h 92 (iI d) (iI 0)) := by
    refine lp_ex (W := fun n o => wl_X12_fitsSoFar_12 post n h 92 (iI d) (iI o)) (lo := 0) (hi := d) d0 (fun i q => q) (fun n o o0 o1 => ?_) (fun n => ?_)
    · show wb_X12_fitsSoFar_12 (wl_X12_fitsSoFar_12 post n) h 92 (iI d) (iI o) post ↔ _
      unfold wb_X12_fitsSoFar_12
      simp (disch := omega) only [MSh.o0 M, MSh.p1 M, MSh.o1 M, MSh.l1 M, MSh.p6 M, MSh.o2 M, MSh.l2 M, MSh.p7 M, MSh.o3 M, MSh.l3 M, MSh.p8 M, MSh.o4 M, MSh.l4 M, MSh.p9 M, MSh.o5 M, MSh.l5 M, MSh.p10 M, MSh.o6 M, MSh.l6 M, MSh.p24 M, MSh.o7 M, MSh.l7 M, MSh.p25 M, MSh.o8 M, MSh.l8 M, MSh.p26 M, MSh.o9 M, MSh.l9 M, MSh.p32 M, MSh.o10 M, MSh.l10 M, MSh.p33 M, MSh.o11 M, MSh.l11 M, MSh.p35 M, MSh.o12 M, MSh.l12 M, MSh.p36 M, MSh.o13 M, MSh.l13 M, MSh.p37 M, MSh.o14 M, MSh.l14 M, MSh.p38 M, MSh.o15 M, MSh.l15 M, MSh.p39 M, MSh.o16 M, MSh.l16 M, MSh.p42 M, MSh.o17 M, MSh.l17 M, MSh.p43 M, MSh.o18 M, MSh.l18 M, MSh.p44 M, MSh.o19 M, MSh.l19 M, MSh.p45 M, MSh.o20 M, MSh.l20 M, MSh.p46 M, MSh.o21 M, MSh.l21 M, MSh.p47 M, MSh.o22 M, MSh.l22 M, MSh.p50 M, MSh.o23 M, MSh.l23 M, MSh.p51 M, MSh.o24 M, MSh.l24 M, MSh.p52 M, MSh.o25 M, MSh.l25 M, m_isOver M d0 d8 (hA d d0 (Int.le_refl _)) o0 (show o < 8 by omega) (hA o o0 (by omega)), -Int.reduceToNat, -Int32.reduceToNatClampNeg, il0, il1, il2, il3, il4, il5, il6, il7, il8, il9, il10, il11, il12, il13, il14, il15, il16, il17, il18, il19, il20, il21, il22, il23, il24, il25, il26, il27, il28, il29, il30, il31, il32, il35, il36, il38, il40, il42, il43, il44, il45, il46, il47, il48, il49, il50, il51, il52, il57, il59, il60, il63, il64, il75, il80, il95, il96, il97, il98, il99, il100, il120, il122, il123, il127, il128, il135, il167, il175, il225, il249, il250, il255, il256, il360, il370, il384, il600, il700, il740, il900, il940, il1024, il1600, il4800, il64000, il125000, il262143, il1000000000, iI_toInt, iI_add, iI_sub, iI_mul, iI_neg, iI_lt, iI_le, iI_eq, iI_n, iI_in, iI_div, iI_mod, iI_shm, iI_and1, iI_and7, iI_and63, iI_shr3, iI_shr6, rd_I, ob, Option.some.injEq, exists_eq_left', exists_eq_left, true_and, and_true, fqI, fqJ, eq_self, true_or, or_true, bP_0, bP_0i, npP, bP_1i, bP_b, not_true_eq_false, not_false_eq_true, false_implies, true_implies, implies_true, Classical.not_not, and_self]
      by_cases c : overT (rd h 99) (rd h 100) d o
      · rw [ite_t c]
        exact ⟨fun u => (u.2 (by omega)).2 c, fun u => ⟨fun q => by omega, fun _ => ⟨fun q => absurd c q, fun _ => u⟩⟩⟩
      · rw [ite_f c]
        exact ⟨fun u => (u.2 (by omega)).1 c, fun u => ⟨fun q => by omega, fun _ => ⟨fun _ => u, fun q => absurd q c⟩⟩⟩
    · show wb_X12_fitsSoFar_12 (wl_X12_fitsSoFar_12 post n) h 92 (iI d) (iI d) post ↔ _
      unfold wb_X12_fitsSoFar_12
      rw [show (0 : Int32) = iI 0 from rfl]
      exact ⟨fun u => u.1 (Int32.le_refl _), fun u => ⟨fun _ => u, fun q => absurd (Int32.le_refl _) q⟩⟩
  rw [lower, ropes]
  by_cases c1 : insT (rd h 94) (rd h 99) (rd h 100) d
  · rw [bP_t c1]
    by_cases c2 : ∃ o, 0 ≤ o ∧ o < d ∧ overT (rd h 99) (rd h 100) d o
    · obtain ⟨o, o0, o1, o2⟩ := c2
      rw [ite_t ⟨o, o0, o1, o2⟩, bP_f (fun q : fsT _ _ _ _ => q.2.1 o o0 o1 o2)]
      exact ⟨fun u => u.2.1 i10, fun u => ⟨o11, fun _ => u, fun q => absurd q i10⟩⟩
    · rw [ite_f c2]
      have e : (∀ k, 0 ≤ k → k < rd h 94 4 → ¬ (((rd h 94 (135 + 4 * k) = d ∧ rd h 94 (135 + 4 * k + 1) < d) ∨ (rd h 94 (135 + 4 * k + 1) = d ∧ rd h 94 (135 + 4 * k) < d)) ∧ rd h 94 (135 + 4 * k + 2) < gapT (rd h 99) (rd h 100) (rd h 94 (135 + 4 * k)) (rd h 94 (135 + 4 * k + 1)))) ↔ fsT (rd h 94) (rd h 99) (rd h 100) d := ⟨fun u => ⟨c1, fun o o0 o1 o2 => c2 ⟨o, o0, o1, o2⟩, u⟩, fun u => u.2.2⟩
      rw [bP_c e]
      exact ⟨fun u => u.2.1 i10, fun u => ⟨o11, fun _ => u, fun q => absurd q i10⟩⟩
  · rw [bP_f c1, bP_f (fun q : fsT _ _ _ _ => c1 q.1)]
    exact ⟨fun u => (u.2.2 rfl).2, fun u => ⟨o11, fun q => absurd rfl q, fun _ => ⟨Or.inl rfl, u⟩⟩⟩
end MAL
