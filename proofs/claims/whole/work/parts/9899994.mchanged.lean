/-! CHANGED in the model -/
def swp (t : Int → Int) (a b k : Int) : Int → Int := updT (updT t (3 * a + k) (t (3 * b + k))) (3 * b + k) (t (3 * a + k))
def chT (t : Int → Int) (a b : Int) : Int → Int := swp (swp t a b 0) a b 1
section MCH
variable {h h1 h2 h' h0 g0 g : AH} {postV : AH → Prop} {post : AH → Int32 → Prop} {a b c d f i j k v w x y pl r hr how gl goal most st u p o : Int} {s t t' t0 z T : Int → Int} {S : BS}
theorem swp_a (ne : a ≠ b) : swp t a b k (3 * a + k) = t (3 * b + k) := by
  unfold swp
  rw [updT_n (by omega), updT_s]
theorem swp_b : swp t a b k (3 * b + k) = t (3 * a + k) := by
  unfold swp
  rw [updT_s]
theorem swp_n (h1 : j ≠ 3 * a + k) (h2 : j ≠ 3 * b + k) : swp t a b k j = t j := by
  unfold swp
  rw [updT_n h2, updT_n h1]
/-- X and Y of two RAFTS changed, all else as it was -/
theorem chT_a (ne : a ≠ b) : chT t a b (3 * a) = t (3 * b) ∧ chT t a b (3 * a + 1) = t (3 * b + 1) ∧ chT t a b (3 * a + 2) = t (3 * a + 2) := by
  have e0 := swp_a (t := t) (k := 0) ne
  rw [Int.add_zero, Int.add_zero] at e0
  unfold chT
  refine ⟨?_, ?_, ?_⟩
  · rw [swp_n (by omega) (by omega)]; exact e0
  · rw [swp_a ne, swp_n (by omega) (by omega)]
  · rw [swp_n (by omega) (by omega), swp_n (by omega) (by omega)]
theorem chT_b (ne : a ≠ b) : chT t a b (3 * b) = t (3 * a) ∧ chT t a b (3 * b + 1) = t (3 * a + 1) ∧ chT t a b (3 * b + 2) = t (3 * b + 2) := by
  have e0 := swp_b (t := t) (a := a) (b := b) (k := 0)
  rw [Int.add_zero, Int.add_zero] at e0
  unfold chT
  refine ⟨?_, ?_, ?_⟩
  · rw [swp_n (by omega) (by omega)]; exact e0
  · rw [swp_b, swp_n (by omega) (by omega)]
  · rw [swp_n (by omega) (by omega), swp_n (by omega) (by omega)]
theorem chT_n (h1 : j < 3 * a ∨ 3 * a + 2 ≤ j) (h2 : j < 3 * b ∨ 3 * b + 2 ≤ j) : chT t a b j = t j := by
  unfold chT
  rw [swp_n (by omega) (by omega), swp_n (by omega) (by omega)]
theorem m_swap (M : MSh h) (h99 : rd h 99 = t) (a0 : 0 ≤ a ∧ a < 8) (b0 : 0 ≤ b ∧ b < 8) (K : ∀ h', Fr [99] [] [] h h' → rd h' 99 = chT t a b → ∀ {K50 : AH → Nat → Int32 → Int32 → Int32 → Int32 → Prop}, wb_X12_changed_50 K50 h' 92 (iI a) (iI b) (iI hr) (iI 2) post) : ∃ n, wl_X12_changed_50 post n h 92 (iI a) (iI b) (iI hr) (iI 0) := by
  have step : ∀ {K50 : AH → Nat → Int32 → Int32 → Int32 → Int32 → Prop} (k : Int) (g : AH) (t : Int → Int), MSh g → rd g 99 = t → 0 ≤ k → k < 2 → (∀ g', Fr [99] [] [] g g' → rd g' 99 = swp t a b k → K50 g' 92 (iI a) (iI b) (iI hr) (iI (k + 1))) → wb_X12_changed_50 K50 g 92 (iI a) (iI b) (iI hr) (iI k) post := by
    intro K50 k g t Mg e k0 k1 nx
    have ta := rd_bd g 99 (3 * a + k)
    have tb := rd_bd g 99 (3 * b + k)
    rw [e] at ta tb
    unfold wb_X12_changed_50
    simp (disch := omega) only [MSh.o0 Mg, MSh.p1 Mg, MSh.o1 Mg, MSh.l1 Mg, MSh.p6 Mg, MSh.o2 Mg, MSh.l2 Mg, MSh.p7 Mg, MSh.o3 Mg, MSh.l3 Mg, MSh.p8 Mg, MSh.o4 Mg, MSh.l4 Mg, MSh.p9 Mg, MSh.o5 Mg, MSh.l5 Mg, MSh.p10 Mg, MSh.o6 Mg, MSh.l6 Mg, MSh.p24 Mg, MSh.o7 Mg, MSh.l7 Mg, MSh.p25 Mg, MSh.o8 Mg, MSh.l8 Mg, MSh.p26 Mg, MSh.o9 Mg, MSh.l9 Mg, MSh.p32 Mg, MSh.o10 Mg, MSh.l10 Mg, MSh.p33 Mg, MSh.o11 Mg, MSh.l11 Mg, MSh.p35 Mg, MSh.o12 Mg, MSh.l12 Mg, MSh.p36 Mg, MSh.o13 Mg, MSh.l13 Mg, MSh.p37 Mg, MSh.o14 Mg, MSh.l14 Mg, MSh.p38 Mg, MSh.o15 Mg, MSh.l15 Mg, MSh.p39 Mg, MSh.o16 Mg, MSh.l16 Mg, MSh.p42 Mg, MSh.o17 Mg, MSh.l17 Mg, MSh.p43 Mg, MSh.o18 Mg, MSh.l18 Mg, MSh.p44 Mg, MSh.o19 Mg, MSh.l19 Mg, MSh.p45 Mg, MSh.o20 Mg, MSh.l20 Mg, MSh.p46 Mg, MSh.o21 Mg, MSh.l21 Mg, MSh.p47 Mg, MSh.o22 Mg, MSh.l22 Mg, MSh.p50 Mg, MSh.o23 Mg, MSh.l23 Mg, MSh.p51 Mg, MSh.o24 Mg, MSh.l24 Mg, MSh.p52 Mg, MSh.o25 Mg, MSh.l25 Mg, e, -Int.reduceToNat, -Int32.reduceToNatClampNeg, il0, il1, il2, il3, il4, il5, il6, il7, il8, il9, il10, il11, il12, il13, il14, il15, il16, il17, il18, il19, il20, il21, il22, il23, il24, il25, il26, il27, il28, il29, il30, il31, il32, il35, il36, il38, il40, il42, il43, il44, il45, il46, il47, il48, il49, il50, il51, il52, il57, il59, il60, il63, il64, il75, il80, il95, il96, il97, il98, il99, il100, il120, il122, il123, il127, il128, il135, il167, il175, il225, il249, il250, il255, il256, il360, il370, il384, il600, il700, il740, il900, il940, il1024, il1600, il4800, il64000, il125000, il262143, il1000000000, iI_toInt, iI_add, iI_sub, iI_mul, iI_neg, iI_lt, iI_le, iI_eq, iI_n, iI_in, iI_div, iI_mod, iI_shm, iI_and1, iI_and7, iI_and63, iI_shr3, iI_shr6, rd_I, ob, Option.some.injEq, exists_eq_left', exists_eq_left, true_and, and_true, fqI, fqJ, eq_self, true_or, or_true, bP_0, bP_0i, npP, bP_1i, bP_b, not_true_eq_false, not_false_eq_true, false_implies, true_implies, implies_true, Classical.not_not, and_self]
    refine ⟨fun u => by omega, fun _ => ?_⟩
    intro g1 w1
    obtain ⟨f1, r1⟩ := wI (i := 3 * a + k) (by omega) (by omega) (by omega) w1
    have M1 := Mg.gr f1.gr
    simp (disch := omega) only [MSh.o0 M1, MSh.p1 M1, MSh.o1 M1, MSh.l1 M1, MSh.p6 M1, MSh.o2 M1, MSh.l2 M1, MSh.p7 M1, MSh.o3 M1, MSh.l3 M1, MSh.p8 M1, MSh.o4 M1, MSh.l4 M1, MSh.p9 M1, MSh.o5 M1, MSh.l5 M1, MSh.p10 M1, MSh.o6 M1, MSh.l6 M1, MSh.p24 M1, MSh.o7 M1, MSh.l7 M1, MSh.p25 M1, MSh.o8 M1, MSh.l8 M1, MSh.p26 M1, MSh.o9 M1, MSh.l9 M1, MSh.p32 M1, MSh.o10 M1, MSh.l10 M1, MSh.p33 M1, MSh.o11 M1, MSh.l11 M1, MSh.p35 M1, MSh.o12 M1, MSh.l12 M1, MSh.p36 M1, MSh.o13 M1, MSh.l13 M1, MSh.p37 M1, MSh.o14 M1, MSh.l14 M1, MSh.p38 M1, MSh.o15 M1, MSh.l15 M1, MSh.p39 M1, MSh.o16 M1, MSh.l16 M1, MSh.p42 M1, MSh.o17 M1, MSh.l17 M1, MSh.p43 M1, MSh.o18 M1, MSh.l18 M1, MSh.p44 M1, MSh.o19 M1, MSh.l19 M1, MSh.p45 M1, MSh.o20 M1, MSh.l20 M1, MSh.p46 M1, MSh.o21 M1, MSh.l21 M1, MSh.p47 M1, MSh.o22 M1, MSh.l22 M1, MSh.p50 M1, MSh.o23 M1, MSh.l23 M1, MSh.p51 M1, MSh.o24 M1, MSh.l24 M1, MSh.p52 M1, MSh.o25 M1, MSh.l25 M1, -Int.reduceToNat, -Int32.reduceToNatClampNeg, il0, il1, il2, il3, il4, il5, il6, il7, il8, il9, il10, il11, il12, il13, il14, il15, il16, il17, il18, il19, il20, il21, il22, il23, il24, il25, il26, il27, il28, il29, il30, il31, il32, il35, il36, il38, il40, il42, il43, il44, il45, il46, il47, il48, il49, il50, il51, il52, il57, il59, il60, il63, il64, il75, il80, il95, il96, il97, il98, il99, il100, il120, il122, il123, il127, il128, il135, il167, il175, il225, il249, il250, il255, il256, il360, il370, il384, il600, il700, il740, il900, il940, il1024, il1600, il4800, il64000, il125000, il262143, il1000000000, iI_toInt, iI_add, iI_sub, iI_mul, iI_neg, iI_lt, iI_le, iI_eq, iI_n, iI_in, iI_div, iI_mod, iI_shm, iI_and1, iI_and7, iI_and63, iI_shr3, iI_shr6, rd_I, ob, Option.some.injEq, exists_eq_left', exists_eq_left, true_and, and_true, fqI, fqJ, eq_self, true_or, or_true, bP_0, bP_0i, npP, bP_1i, bP_b, not_true_eq_false, not_false_eq_true, false_implies, true_implies, implies_true, Classical.not_not, and_self]
    intro g2 w2
    obtain ⟨f2, r2⟩ := wI (i := 3 * b + k) (by omega) (by omega) (by omega) w2
    refine nx g2 (f1.trans f2) ?_
    rw [r2, r1, e]
    rfl
  refine ⟨3, ?_⟩
  show wb_X12_changed_50 (wl_X12_changed_50 post 2) h 92 (iI a) (iI b) (iI hr) (iI 0) post
  refine step 0 h t M h99 (by omega) (by omega) fun g1 f1 e1 => ?_
  show wb_X12_changed_50 (wl_X12_changed_50 post 1) g1 92 (iI a) (iI b) (iI hr) (iI (0 + 1)) post
  refine step (0 + 1) g1 _ (M.gr f1.gr) e1 (by omega) (by omega) fun g2 f2 e2 => ?_
  show wb_X12_changed_50 (wl_X12_changed_50 post 0) g2 92 (iI a) (iI b) (iI hr) (iI (0 + 1 + 1)) post
  exact K g2 (f1.trans f2) e2
end MCH
