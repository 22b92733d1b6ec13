/-! the class's lagoon: gaps, what carries, poles -/
theorem mxI {a b : Int} (h1 : -2147483648 ≤ a) (h2 : a < 2147483648) (h3 : -2147483648 ≤ b) (h4 : b < 2147483648) : mx (iI a) (iI b) = iI (if a < b then b else a) := by
  unfold mx
  by_cases c : a < b
  · rw [if_pos ((iI_lt h1 h2 h3 h4).mpr c), if_pos c]
  · rw [if_neg (fun q => c ((iI_lt h1 h2 h3 h4).mp q)), if_neg c]
def mxz (a b : Int) : Int := if a < b then b else a
theorem z_and0' (a b : Int64) : a &&& b = 0 ↔ ∀ x y, 0 ≤ x → x < 8 → 0 ≤ y → y < 8 → ¬ (zb a (8 * y + x) ∧ zb b (8 * y + x)) := by
  rw [z_and0]
  constructor
  · intro q x y h1 h2 h3 h4
    exact q _ (by omega) (by omega)
  · intro q k h1 h2
    have := q (k % 8) (k / 8) (by omega) (by omega) (by omega) (by omega)
    rw [show 8 * (k / 8) + k % 8 = k by omega] at this
    exact this
def gsp (xa ya wa ha xb yb wb hb : Int) : Int := mxz 0 (mxz (mxz (xb - xa - wa) (xa - xb - wb)) (mxz (yb - ya - ha) (ya - yb - hb)))
theorem gsp_gap {t z : Int → Int} {a b : Int} (h1 : 1 ≤ wdT t z a) (h2 : 1 ≤ hiT t z a) (h3 : 1 ≤ wdT t z b) (h4 : 1 ≤ hiT t z b) : gsp (t (3 * a)) (t (3 * a + 1)) (wdT t z a) (hiT t z a) (t (3 * b)) (t (3 * b + 1)) (wdT t z b) (hiT t z b) = gapT t z a b := by
  unfold gsp gapT btw mxz
  (repeat' split) <;> omega
theorem gap_sym {t z : Int → Int} {a b : Int} (h1 : 1 ≤ wdT t z a) (h2 : 1 ≤ hiT t z a) (h3 : 1 ≤ wdT t z b) (h4 : 1 ≤ hiT t z b) : gapT t z a b = gapT t z b a := by
  rw [← gsp_gap h1 h2 h3 h4, ← gsp_gap h3 h4 h1 h2]
  unfold gsp mxz
  (repeat' split) <;> omega
def fits (s : Int → Int) (z : Int64) (r hr : Int) : Prop := s (99 + 3 * r + 2) = 0 ∨ (s (99 + 3 * r + 2) ≤ s (75 + hr) ∧ ∀ x y, 0 ≤ x → x < 8 → 0 ≤ y → y < 8 → zb z (8 * y + x) → x < s 0 ∧ y < s 1 ∧ s (11 + 8 * y + x) ≤ s (75 + hr) - s (99 + 3 * r + 2))
def unev (s : Int → Int) (z : Int64) : Prop := ∃ x y x' y', (0 ≤ x ∧ x < 8 ∧ 0 ≤ y ∧ y < 8 ∧ zb z (8 * y + x)) ∧ (0 ≤ x' ∧ x' < 8 ∧ 0 ≤ y' ∧ y' < 8 ∧ zb z (8 * y' + x')) ∧ s (11 + 8 * y + x) + 1 < s (11 + 8 * y' + x')
noncomputable def polZ (s : Int → Int) (z : Int64) : Int := fstI (fun k => zb z (8 * s (123 + 2 * k + 1) + s (123 + 2 * k))) (s 3).toNat 0
def pcell (s : Int → Int) (k : Int) : Int := if k < 0 then -1 else 8 * s (123 + 2 * k + 1) + s (123 + 2 * k)
section CLAG
variable {h : AH} {la : Nat} {s : Int → Int} {post : AH → Int32 → Prop} {postJ : AH → Int64 → Prop} {a b c d r x y n sp sq w hh u hr : Int} {z : Int64}
theorem c_between (H : LB h la) (L : LR h la s) (hD : SD s) (h8 : s 2 ≤ 8) (h1 : 0 ≤ a) (h2 : a < s 2) (h3 : 0 ≤ sp) (h4 : sp < 128) (h1' : 0 ≤ b) (h2' : b < s 2) (h3' : 0 ≤ sq) (h4' : sq < 128) :
    wp_X1_between h la (iI a) (iI sp) (iI b) (iI sq) post ↔ post h (iI (gsp (sp % 8) (sp / 8 % 8) (wsp s a sp) (hsp s a sp) (sq % 8) (sq / 8 % 8) (wsp s b sq) (hsp s b sq))) := by
  have wa := wsp_bd sp hD h1 h2
  have wb := wsp_bd sq hD h1' h2'
  have e1 : -20 ≤ mxz (sq % 8 - sp % 8 - wsp s a sp) (sp % 8 - sq % 8 - wsp s b sq) ∧ mxz (sq % 8 - sp % 8 - wsp s a sp) (sp % 8 - sq % 8 - wsp s b sq) ≤ 20 := by unfold mxz; split <;> omega
  have e2 : -20 ≤ mxz (sq / 8 % 8 - sp / 8 % 8 - hsp s a sp) (sp / 8 % 8 - sq / 8 % 8 - hsp s b sq) ∧ mxz (sq / 8 % 8 - sp / 8 % 8 - hsp s a sp) (sp / 8 % 8 - sq / 8 % 8 - hsp s b sq) ≤ 20 := by unfold mxz; split <;> omega
  have e3 : ∀ p q : Int, -20 ≤ p ∧ p ≤ 20 → -20 ≤ q ∧ q ≤ 20 → -20 ≤ mxz p q ∧ mxz p q ≤ 20 := by intro p q _ _; unfold mxz; split <;> omega
  have e4 := e3 _ _ e1 e2
  have mI : ∀ {a b : Int}, -2147483648 ≤ a → a < 2147483648 → -2147483648 ≤ b → b < 2147483648 → mx (iI a) (iI b) = iI (mxz a b) := fun a b c d => mxI a b c d
  unfold wp_X1_between gsp
  simp (disch := omega) only [LB.o0 H, LB.p2 H, LB.o1 H, LB.l1 H, LB.p3 H, LB.o2 H, LB.l2 H, LB.p4 H, LB.o3 H, LB.l3 H, LB.p6 H, LB.o4 H, LB.l4 H, LB.p7 H, LB.o5 H, LB.l5 H, LB.p8 H, LB.o6 H, LB.l6 H, LB.p9 H, LB.o7 H, LB.l7 H, LB.p10 H, LB.o8 H, LB.l8 H, LB.p12 H, LB.o9 H, LB.l9 H, LB.p14 H, LB.o10 H, LB.p15 H, LB.o16 H, LB.q10_1 H, LB.o11 H, LB.l11 H, LB.q10_2 H, LB.o12 H, LB.l12 H, LB.q10_3 H, LB.o13 H, LB.l13 H, LB.q10_4 H, LB.o14 H, LB.l14 H, LB.q10_5 H, LB.o15 H, LB.l15 H, LB.q16_1 H, LB.o17 H, LB.l17 H, LB.q16_2 H, LB.o18 H, LB.l18 H, LB.q16_3 H, LB.o19 H, LB.l19 H, LB.q16_4 H, LB.o20 H, LB.l20 H, fd0, fd1, fd2, fd3, fd4, fd5, fd6, fd7, fd8, fd9, fd10, fd11, fd12, fd13, fd14, fd15, fd16, fd17, fd18, fd19, fd20, fd21, fd22, fd23, fd24, fd25, fd26, fd27, fd28, fd29, fd30, fd31, fd32, fd33, fd34, fd35, fd36, fd37, fd38, fd39, fd40, fd41, fd42, fd43, fd44, fd45, fd46, fd47, fd48, fd49, fd50, fd51, fd52, LR.c0 L, LR.c1 L, LR.c5 L, LR.c11 L, LR.q0 L, LR.w0 L, LR.td L, LR.wi L, LR.hi L, LR.dr L, LR.po L, LR.ro L, LR.rp L, LR.rq L, LR.rh L, LR.mo L, LR.wk L, LR.wh L, LR.wt L, LR.ww L, -Int.reduceToNat, -Int32.reduceToNatClampNeg, il0, il1, il2, il3, il4, il5, il6, il7, il8, il9, il10, il11, il12, il13, il14, il15, il16, il17, il18, il19, il20, il21, il22, il23, il24, il25, il26, il27, il28, il29, il30, il31, il32, il35, il36, il38, il40, il42, il43, il44, il45, il46, il47, il48, il49, il50, il51, il52, il57, il59, il60, il63, il64, il75, il80, il95, il96, il97, il98, il99, il100, il120, il122, il123, il127, il128, il135, il167, il175, il225, il249, il250, il255, il256, il360, il370, il384, il600, il700, il740, il900, il940, il1024, il1600, il4800, il64000, il125000, il262143, il1000000000, iI_toInt, iI_add, iI_sub, iI_mul, iI_neg, iI_lt, iI_le, iI_eq, iI_n, iI_in, iI_div, iI_mod, iI_shm, iI_and1, iI_and7, iI_and63, iI_shr3, iI_shr6, rd_I, ob, Option.some.injEq, exists_eq_left', exists_eq_left, true_and, and_true, forall_eq, forall_eq_apply_imp_iff, eq_self, true_or, or_true, bP_0, bP_0i, npP, bP_1i, bP_b, not_true_eq_false, not_false_eq_true, false_implies, true_implies, implies_true, Classical.not_not, and_self, c_wideAt H L h1 h2 h8, c_highAt H L h1 h2 h8, c_wideAt H L h1' h2' h8, c_highAt H L h1' h2' h8, mI]
theorem c_carries (H : LB h la) (L : LR h la s) (hS : SBd s) (hD : SD s) (h8 : s 2 ≤ 8) (h1 : 0 ≤ r) (h2 : r < s 2) (h3 : 0 ≤ hr) (h4 : hr < 24) : wp_X1_carries h la (iI r) z (iI hr) post ↔ post h (bP (fits s z r hr)) := by
  have s1 := hS (75 + hr) (by omega) (by omega)
  have s2 := hS (99 + 3 * r + 2) (by omega) (by omega)
  have d1 := hD.1 hr h3 h4
  have d2 := (hD.2.2 r h1 h2).2
  unfold wp_X1_carries
  simp (disch := omega) only [LB.o0 H, LB.p2 H, LB.o1 H, LB.l1 H, LB.p3 H, LB.o2 H, LB.l2 H, LB.p4 H, LB.o3 H, LB.l3 H, LB.p6 H, LB.o4 H, LB.l4 H, LB.p7 H, LB.o5 H, LB.l5 H, LB.p8 H, LB.o6 H, LB.l6 H, LB.p9 H, LB.o7 H, LB.l7 H, LB.p10 H, LB.o8 H, LB.l8 H, LB.p12 H, LB.o9 H, LB.l9 H, LB.p14 H, LB.o10 H, LB.p15 H, LB.o16 H, LB.q10_1 H, LB.o11 H, LB.l11 H, LB.q10_2 H, LB.o12 H, LB.l12 H, LB.q10_3 H, LB.o13 H, LB.l13 H, LB.q10_4 H, LB.o14 H, LB.l14 H, LB.q10_5 H, LB.o15 H, LB.l15 H, LB.q16_1 H, LB.o17 H, LB.l17 H, LB.q16_2 H, LB.o18 H, LB.l18 H, LB.q16_3 H, LB.o19 H, LB.l19 H, LB.q16_4 H, LB.o20 H, LB.l20 H, fd0, fd1, fd2, fd3, fd4, fd5, fd6, fd7, fd8, fd9, fd10, fd11, fd12, fd13, fd14, fd15, fd16, fd17, fd18, fd19, fd20, fd21, fd22, fd23, fd24, fd25, fd26, fd27, fd28, fd29, fd30, fd31, fd32, fd33, fd34, fd35, fd36, fd37, fd38, fd39, fd40, fd41, fd42, fd43, fd44, fd45, fd46, fd47, fd48, fd49, fd50, fd51, fd52, LR.c0 L, LR.c1 L, LR.c5 L, LR.c11 L, LR.q0 L, LR.w0 L, LR.td L, LR.wi L, LR.hi L, LR.dr L, LR.po L, LR.ro L, LR.rp L, LR.rq L, LR.rh L, LR.mo L, LR.wk L, LR.wh L, LR.wt L, LR.ww L, -Int.reduceToNat, -Int32.reduceToNatClampNeg, il0, il1, il2, il3, il4, il5, il6, il7, il8, il9, il10, il11, il12, il13, il14, il15, il16, il17, il18, il19, il20, il21, il22, il23, il24, il25, il26, il27, il28, il29, il30, il31, il32, il35, il36, il38, il40, il42, il43, il44, il45, il46, il47, il48, il49, il50, il51, il52, il57, il59, il60, il63, il64, il75, il80, il95, il96, il97, il98, il99, il100, il120, il122, il123, il127, il128, il135, il167, il175, il225, il249, il250, il255, il256, il360, il370, il384, il600, il700, il740, il900, il940, il1024, il1600, il4800, il64000, il125000, il262143, il1000000000, iI_toInt, iI_add, iI_sub, iI_mul, iI_neg, iI_lt, iI_le, iI_eq, iI_n, iI_in, iI_div, iI_mod, iI_shm, iI_and1, iI_and7, iI_and63, iI_shr3, iI_shr6, rd_I, lgc, z_bit, ob, Option.some.injEq, exists_eq_left', exists_eq_left, true_and, and_true, forall_eq, forall_eq_apply_imp_iff, eq_self, true_or, or_true, bP_0, bP_0i, npP, bP_1i, bP_b, not_true_eq_false, not_false_eq_true, false_implies, true_implies, implies_true, Classical.not_not, and_self, cP, cP', ite_n]
  by_cases c0 : s (99 + 3 * r + 2) = 0
  · rw [ite_t c0, bP_t (P := fits s z r hr) (Or.inl c0)]
  rw [ite_f c0]
  by_cases c1 : s (75 + hr) - s (99 + 3 * r + 2) < 0
  · rw [ite_t c1, bP_f (P := fits s z r hr) (fun q => by rcases q with q | q; exact c0 q; have := q.1; omega)]
  rw [ite_f c1]
  simp (disch := omega) only [LB.o0 H, LB.p2 H, LB.o1 H, LB.l1 H, LB.p3 H, LB.o2 H, LB.l2 H, LB.p4 H, LB.o3 H, LB.l3 H, LB.p6 H, LB.o4 H, LB.l4 H, LB.p7 H, LB.o5 H, LB.l5 H, LB.p8 H, LB.o6 H, LB.l6 H, LB.p9 H, LB.o7 H, LB.l7 H, LB.p10 H, LB.o8 H, LB.l8 H, LB.p12 H, LB.o9 H, LB.l9 H, LB.p14 H, LB.o10 H, LB.p15 H, LB.o16 H, LB.q10_1 H, LB.o11 H, LB.l11 H, LB.q10_2 H, LB.o12 H, LB.l12 H, LB.q10_3 H, LB.o13 H, LB.l13 H, LB.q10_4 H, LB.o14 H, LB.l14 H, LB.q10_5 H, LB.o15 H, LB.l15 H, LB.q16_1 H, LB.o17 H, LB.l17 H, LB.q16_2 H, LB.o18 H, LB.l18 H, LB.q16_3 H, LB.o19 H, LB.l19 H, LB.q16_4 H, LB.o20 H, LB.l20 H, fd0, fd1, fd2, fd3, fd4, fd5, fd6, fd7, fd8, fd9, fd10, fd11, fd12, fd13, fd14, fd15, fd16, fd17, fd18, fd19, fd20, fd21, fd22, fd23, fd24, fd25, fd26, fd27, fd28, fd29, fd30, fd31, fd32, fd33, fd34, fd35, fd36, fd37, fd38, fd39, fd40, fd41, fd42, fd43, fd44, fd45, fd46, fd47, fd48, fd49, fd50, fd51, fd52, LR.c0 L, LR.c1 L, LR.c5 L, LR.c11 L, LR.q0 L, LR.w0 L, LR.td L, LR.wi L, LR.hi L, LR.dr L, LR.po L, LR.ro L, LR.rp L, LR.rq L, LR.rh L, LR.mo L, LR.wk L, LR.wh L, LR.wt L, LR.ww L, -Int.reduceToNat, -Int32.reduceToNatClampNeg, il0, il1, il2, il3, il4, il5, il6, il7, il8, il9, il10, il11, il12, il13, il14, il15, il16, il17, il18, il19, il20, il21, il22, il23, il24, il25, il26, il27, il28, il29, il30, il31, il32, il35, il36, il38, il40, il42, il43, il44, il45, il46, il47, il48, il49, il50, il51, il52, il57, il59, il60, il63, il64, il75, il80, il95, il96, il97, il98, il99, il100, il120, il122, il123, il127, il128, il135, il167, il175, il225, il249, il250, il255, il256, il360, il370, il384, il600, il700, il740, il900, il940, il1024, il1600, il4800, il64000, il125000, il262143, il1000000000, iI_toInt, iI_add, iI_sub, iI_mul, iI_neg, iI_lt, iI_le, iI_eq, iI_n, iI_in, iI_div, iI_mod, iI_shm, iI_and1, iI_and7, iI_and63, iI_shr3, iI_shr6, rd_I, lgc, z_bit, ob, Option.some.injEq, exists_eq_left', exists_eq_left, true_and, and_true, forall_eq, forall_eq_apply_imp_iff, eq_self, true_or, or_true, bP_0, bP_0i, npP, bP_1i, bP_b, not_true_eq_false, not_false_eq_true, false_implies, true_implies, implies_true, Classical.not_not, and_self, cP, cP', ite_n]
  by_cases c2 : z &&& (aJ h (la + 2) (s (75 + hr) - s (99 + 3 * r + 2)).toNat ^^^ -1) = 0
  · rw [ite_t c2, bP_t (P := fits s z r hr)]
    refine Or.inr ⟨by omega, fun x y x1 x2 y1 y2 hz => ?_⟩
    rw [z_and0'] at c2
    have := c2 x y x1 x2 y1 y2
    rw [zb_not _ (by omega) (by omega), L.up _ x y (by omega) (by omega) x1 x2 y1 y2] at this
    exact Classical.not_not.mp fun q => this ⟨hz, q⟩
  · rw [ite_f c2, bP_f (P := fits s z r hr)]
    intro q
    rcases q with q | q
    · exact c0 q
    apply c2
    rw [z_and0']
    rintro x y x1 x2 y1 y2 ⟨q1, q2⟩
    rw [zb_not _ (by omega) (by omega), L.up _ x y (by omega) (by omega) x1 x2 y1 y2] at q2
    exact q2 (q.2 x y x1 x2 y1 y2 q1)
theorem c_hoursCarrying (H : LB h la) (L : LR h la s) (hS : SBd s) (hD : SD s) (h8 : s 2 ≤ 8) (h1 : 0 ≤ r) (h2 : r < s 2) : wp_X1_hoursCarrying h la (iI r) z post ↔ post h (foldI (bitsF (fits s z r)) 24 0 (iI 0)) := by
  unfold wp_X1_hoursCarrying
  refine lp_fold (W := fun n (b : Int32) k => wl_X1_hoursCarrying_6 post n h la (iI r) z b (iI k)) (E := fun b => post h b) (lo := 0) (hi := 24) (fun _ _ => True) (by omega) (fun b i q => q) (fun n b k k1 k2 _ => ?_) (fun _ _ _ _ _ => trivial) (fun n b _ => ?_) (iI 0) trivial
  · show wb_X1_hoursCarrying_6 (wl_X1_hoursCarrying_6 post n) h la (iI r) z b (iI k) post ↔ _
    unfold wb_X1_hoursCarrying_6 wb_X1_hoursCarrying_33
    simp (disch := omega) only [LB.o0 H, LB.p2 H, LB.o1 H, LB.l1 H, LB.p3 H, LB.o2 H, LB.l2 H, LB.p4 H, LB.o3 H, LB.l3 H, LB.p6 H, LB.o4 H, LB.l4 H, LB.p7 H, LB.o5 H, LB.l5 H, LB.p8 H, LB.o6 H, LB.l6 H, LB.p9 H, LB.o7 H, LB.l7 H, LB.p10 H, LB.o8 H, LB.l8 H, LB.p12 H, LB.o9 H, LB.l9 H, LB.p14 H, LB.o10 H, LB.p15 H, LB.o16 H, LB.q10_1 H, LB.o11 H, LB.l11 H, LB.q10_2 H, LB.o12 H, LB.l12 H, LB.q10_3 H, LB.o13 H, LB.l13 H, LB.q10_4 H, LB.o14 H, LB.l14 H, LB.q10_5 H, LB.o15 H, LB.l15 H, LB.q16_1 H, LB.o17 H, LB.l17 H, LB.q16_2 H, LB.o18 H, LB.l18 H, LB.q16_3 H, LB.o19 H, LB.l19 H, LB.q16_4 H, LB.o20 H, LB.l20 H, -Int.reduceToNat, -Int32.reduceToNatClampNeg, il0, il1, il2, il3, il4, il5, il6, il7, il8, il9, il10, il11, il12, il13, il14, il15, il16, il17, il18, il19, il20, il21, il22, il23, il24, il25, il26, il27, il28, il29, il30, il31, il32, il35, il36, il38, il40, il42, il43, il44, il45, il46, il47, il48, il49, il50, il51, il52, il57, il59, il60, il63, il64, il75, il80, il95, il96, il97, il98, il99, il100, il120, il122, il123, il127, il128, il135, il167, il175, il225, il249, il250, il255, il256, il360, il370, il384, il600, il700, il740, il900, il940, il1024, il1600, il4800, il64000, il125000, il262143, il1000000000, iI_toInt, iI_add, iI_sub, iI_mul, iI_neg, iI_lt, iI_le, iI_eq, iI_n, iI_in, iI_div, iI_mod, iI_shm, iI_and1, iI_and7, iI_and63, iI_shr3, iI_shr6, rd_I, lgc, z_bit, ob, Option.some.injEq, exists_eq_left', exists_eq_left, true_and, and_true, forall_eq, forall_eq_apply_imp_iff, eq_self, true_or, or_true, bP_0, bP_0i, npP, bP_1i, bP_b, not_true_eq_false, not_false_eq_true, false_implies, true_implies, implies_true, Classical.not_not, and_self, cP, cP', ite_n, ite_T, ite_F, ite_t, ite_f, c_carries H L hS hD h8 h1 h2]
    unfold bitsF
    by_cases c1 : fits s z r k
    · rw [ite_t c1, ite_t c1]
    · rw [ite_f c1, ite_f c1]
  · show wb_X1_hoursCarrying_6 (wl_X1_hoursCarrying_6 post n) h la (iI r) z b (iI _) post ↔ _
    unfold wb_X1_hoursCarrying_6
    simp (disch := omega) only [LB.o0 H, LB.p2 H, LB.o1 H, LB.l1 H, LB.p3 H, LB.o2 H, LB.l2 H, LB.p4 H, LB.o3 H, LB.l3 H, LB.p6 H, LB.o4 H, LB.l4 H, LB.p7 H, LB.o5 H, LB.l5 H, LB.p8 H, LB.o6 H, LB.l6 H, LB.p9 H, LB.o7 H, LB.l7 H, LB.p10 H, LB.o8 H, LB.l8 H, LB.p12 H, LB.o9 H, LB.l9 H, LB.p14 H, LB.o10 H, LB.p15 H, LB.o16 H, LB.q10_1 H, LB.o11 H, LB.l11 H, LB.q10_2 H, LB.o12 H, LB.l12 H, LB.q10_3 H, LB.o13 H, LB.l13 H, LB.q10_4 H, LB.o14 H, LB.l14 H, LB.q10_5 H, LB.o15 H, LB.l15 H, LB.q16_1 H, LB.o17 H, LB.l17 H, LB.q16_2 H, LB.o18 H, LB.l18 H, LB.q16_3 H, LB.o19 H, LB.l19 H, LB.q16_4 H, LB.o20 H, LB.l20 H, -Int.reduceToNat, -Int32.reduceToNatClampNeg, il0, il1, il2, il3, il4, il5, il6, il7, il8, il9, il10, il11, il12, il13, il14, il15, il16, il17, il18, il19, il20, il21, il22, il23, il24, il25, il26, il27, il28, il29, il30, il31, il32, il35, il36, il38, il40, il42, il43, il44, il45, il46, il47, il48, il49, il50, il51, il52, il57, il59, il60, il63, il64, il75, il80, il95, il96, il97, il98, il99, il100, il120, il122, il123, il127, il128, il135, il167, il175, il225, il249, il250, il255, il256, il360, il370, il384, il600, il700, il740, il900, il940, il1024, il1600, il4800, il64000, il125000, il262143, il1000000000, iI_toInt, iI_add, iI_sub, iI_mul, iI_neg, iI_lt, iI_le, iI_eq, iI_n, iI_in, iI_div, iI_mod, iI_shm, iI_and1, iI_and7, iI_and63, iI_shr3, iI_shr6, rd_I, lgc, z_bit, ob, Option.some.injEq, exists_eq_left', exists_eq_left, true_and, and_true, forall_eq, forall_eq_apply_imp_iff, eq_self, true_or, or_true, bP_0, bP_0i, npP, bP_1i, bP_b, not_true_eq_false, not_false_eq_true, false_implies, true_implies, implies_true, Classical.not_not, and_self, cP, cP', ite_n, ite_T, ite_F, ite_t, ite_f]
theorem c_poleUnder (H : LB h la) (L : LR h la s) (hS : SBd s) (h6 : s 3 ≤ 6) (hp : ∀ k, 0 ≤ k → k < s 3 → s (123 + 2 * k) < 8 ∧ s (123 + 2 * k + 1) < 8) : wp_X1_poleUnder h la z post ↔ post h (iI (pcell s (polZ s z))) := by
  have s3 := hS 3 (by omega) (by omega)
  unfold wp_X1_poleUnder polZ
  have key := lp_fst (W := fun n k => wl_X1_poleUnder_2 post n h la z (iI k)) (P := fun k => zb z (8 * s (123 + 2 * k + 1) + s (123 + 2 * k))) (E := fun i => post h (iI (pcell s i))) (lo := 0) (hi := s 3) (by omega) (fun i q => q) (fun n k k1 k2 => ?_) (fun n => ?_)
  · rw [Int.sub_zero] at key
    exact key
  · show wb_X1_poleUnder_2 (wl_X1_poleUnder_2 post n) h la z (iI k) post ↔ _
    have e1 := hS (123 + 2 * k) (by omega) (by omega)
    have e2 := hS (123 + 2 * k + 1) (by omega) (by omega)
    have e3 := hp k k1 k2
    unfold wb_X1_poleUnder_2
    rw [show pcell s k = 8 * s (123 + 2 * k + 1) + s (123 + 2 * k) by unfold pcell; rw [if_neg (by omega)]]
    simp (disch := omega) only [LB.o0 H, LB.p2 H, LB.o1 H, LB.l1 H, LB.p3 H, LB.o2 H, LB.l2 H, LB.p4 H, LB.o3 H, LB.l3 H, LB.p6 H, LB.o4 H, LB.l4 H, LB.p7 H, LB.o5 H, LB.l5 H, LB.p8 H, LB.o6 H, LB.l6 H, LB.p9 H, LB.o7 H, LB.l7 H, LB.p10 H, LB.o8 H, LB.l8 H, LB.p12 H, LB.o9 H, LB.l9 H, LB.p14 H, LB.o10 H, LB.p15 H, LB.o16 H, LB.q10_1 H, LB.o11 H, LB.l11 H, LB.q10_2 H, LB.o12 H, LB.l12 H, LB.q10_3 H, LB.o13 H, LB.l13 H, LB.q10_4 H, LB.o14 H, LB.l14 H, LB.q10_5 H, LB.o15 H, LB.l15 H, LB.q16_1 H, LB.o17 H, LB.l17 H, LB.q16_2 H, LB.o18 H, LB.l18 H, LB.q16_3 H, LB.o19 H, LB.l19 H, LB.q16_4 H, LB.o20 H, LB.l20 H, fd0, fd1, fd2, fd3, fd4, fd5, fd6, fd7, fd8, fd9, fd10, fd11, fd12, fd13, fd14, fd15, fd16, fd17, fd18, fd19, fd20, fd21, fd22, fd23, fd24, fd25, fd26, fd27, fd28, fd29, fd30, fd31, fd32, fd33, fd34, fd35, fd36, fd37, fd38, fd39, fd40, fd41, fd42, fd43, fd44, fd45, fd46, fd47, fd48, fd49, fd50, fd51, fd52, LR.c0 L, LR.c1 L, LR.c5 L, LR.c11 L, LR.q0 L, LR.w0 L, LR.td L, LR.wi L, LR.hi L, LR.dr L, LR.po L, LR.ro L, LR.rp L, LR.rq L, LR.rh L, LR.mo L, LR.wk L, LR.wh L, LR.wt L, LR.ww L, -Int.reduceToNat, -Int32.reduceToNatClampNeg, il0, il1, il2, il3, il4, il5, il6, il7, il8, il9, il10, il11, il12, il13, il14, il15, il16, il17, il18, il19, il20, il21, il22, il23, il24, il25, il26, il27, il28, il29, il30, il31, il32, il35, il36, il38, il40, il42, il43, il44, il45, il46, il47, il48, il49, il50, il51, il52, il57, il59, il60, il63, il64, il75, il80, il95, il96, il97, il98, il99, il100, il120, il122, il123, il127, il128, il135, il167, il175, il225, il249, il250, il255, il256, il360, il370, il384, il600, il700, il740, il900, il940, il1024, il1600, il4800, il64000, il125000, il262143, il1000000000, iI_toInt, iI_add, iI_sub, iI_mul, iI_neg, iI_lt, iI_le, iI_eq, iI_n, iI_in, iI_div, iI_mod, iI_shm, iI_and1, iI_and7, iI_and63, iI_shr3, iI_shr6, rd_I, lgc, z_bit, ob, Option.some.injEq, exists_eq_left', exists_eq_left, true_and, and_true, forall_eq, forall_eq_apply_imp_iff, eq_self, true_or, or_true, bP_0, bP_0i, npP, bP_1i, bP_b, not_true_eq_false, not_false_eq_true, false_implies, true_implies, implies_true, Classical.not_not, and_self, cP, cP', ite_n, ite_T, ite_F, ite_t, ite_f]
  · show wb_X1_poleUnder_2 (wl_X1_poleUnder_2 post n) h la z (iI _) post ↔ _
    unfold wb_X1_poleUnder_2
    rw [show pcell s (-1) = -1 by unfold pcell; rw [if_pos (by omega)]]
    simp (disch := omega) only [LB.o0 H, LB.p2 H, LB.o1 H, LB.l1 H, LB.p3 H, LB.o2 H, LB.l2 H, LB.p4 H, LB.o3 H, LB.l3 H, LB.p6 H, LB.o4 H, LB.l4 H, LB.p7 H, LB.o5 H, LB.l5 H, LB.p8 H, LB.o6 H, LB.l6 H, LB.p9 H, LB.o7 H, LB.l7 H, LB.p10 H, LB.o8 H, LB.l8 H, LB.p12 H, LB.o9 H, LB.l9 H, LB.p14 H, LB.o10 H, LB.p15 H, LB.o16 H, LB.q10_1 H, LB.o11 H, LB.l11 H, LB.q10_2 H, LB.o12 H, LB.l12 H, LB.q10_3 H, LB.o13 H, LB.l13 H, LB.q10_4 H, LB.o14 H, LB.l14 H, LB.q10_5 H, LB.o15 H, LB.l15 H, LB.q16_1 H, LB.o17 H, LB.l17 H, LB.q16_2 H, LB.o18 H, LB.l18 H, LB.q16_3 H, LB.o19 H, LB.l19 H, LB.q16_4 H, LB.o20 H, LB.l20 H, fd0, fd1, fd2, fd3, fd4, fd5, fd6, fd7, fd8, fd9, fd10, fd11, fd12, fd13, fd14, fd15, fd16, fd17, fd18, fd19, fd20, fd21, fd22, fd23, fd24, fd25, fd26, fd27, fd28, fd29, fd30, fd31, fd32, fd33, fd34, fd35, fd36, fd37, fd38, fd39, fd40, fd41, fd42, fd43, fd44, fd45, fd46, fd47, fd48, fd49, fd50, fd51, fd52, LR.c0 L, LR.c1 L, LR.c5 L, LR.c11 L, LR.q0 L, LR.w0 L, LR.td L, LR.wi L, LR.hi L, LR.dr L, LR.po L, LR.ro L, LR.rp L, LR.rq L, LR.rh L, LR.mo L, LR.wk L, LR.wh L, LR.wt L, LR.ww L, -Int.reduceToNat, -Int32.reduceToNatClampNeg, il0, il1, il2, il3, il4, il5, il6, il7, il8, il9, il10, il11, il12, il13, il14, il15, il16, il17, il18, il19, il20, il21, il22, il23, il24, il25, il26, il27, il28, il29, il30, il31, il32, il35, il36, il38, il40, il42, il43, il44, il45, il46, il47, il48, il49, il50, il51, il52, il57, il59, il60, il63, il64, il75, il80, il95, il96, il97, il98, il99, il100, il120, il122, il123, il127, il128, il135, il167, il175, il225, il249, il250, il255, il256, il360, il370, il384, il600, il700, il740, il900, il940, il1024, il1600, il4800, il64000, il125000, il262143, il1000000000, iI_toInt, iI_add, iI_sub, iI_mul, iI_neg, iI_lt, iI_le, iI_eq, iI_n, iI_in, iI_div, iI_mod, iI_shm, iI_and1, iI_and7, iI_and63, iI_shr3, iI_shr6, rd_I, lgc, z_bit, ob, Option.some.injEq, exists_eq_left', exists_eq_left, true_and, and_true, forall_eq, forall_eq_apply_imp_iff, eq_self, true_or, or_true, bP_0, bP_0i, npP, bP_1i, bP_b, not_true_eq_false, not_false_eq_true, false_implies, true_implies, implies_true, Classical.not_not, and_self, cP, cP', ite_n, ite_T, ite_F, ite_t, ite_f]
theorem c_isUneven (H : LB h la) (L : LR h la s) (hS : SBd s) (hD : SD s) (hz : ∀ x y, 0 ≤ x → x < 8 → 0 ≤ y → y < 8 → zb z (8 * y + x) → x < s 0 ∧ y < s 1) : wp_X1_isUneven h la z post ↔ post h (bP (unev s z)) := by
  unfold wp_X1_isUneven
  show (∃ n, wl_X1_isUneven_2 post n h la z (iI 0)) ↔ _
  rw [lp_find (W := fun n k => wl_X1_isUneven_2 post n h la z (iI k)) (P := fun g => ¬ z &&& aJ h (la + 2) g.toNat = 0) (A := fun g => post h (bP (¬ z &&& (aJ h (la + 2) (g + 1).toNat ^^^ -1) = 0))) (E := post h (iI 0)) (lo := 0) (hi := 9) (by omega) (fun i q => q) (fun n k k1 k2 => ?_) (fun n => ?_)]
  · have low : ∀ g, 0 ≤ g → g < 9 → (¬ z &&& aJ h (la + 2) g.toNat = 0 ↔ ∃ x y, 0 ≤ x ∧ x < 8 ∧ 0 ≤ y ∧ y < 8 ∧ zb z (8 * y + x) ∧ s (11 + 8 * y + x) ≤ g) := by
      intro g g1 g2
      rw [z_and0']
      constructor
      · intro q
        apply Classical.byContradiction
        intro q2
        apply q
        rintro x y x1 x2 y1 y2 ⟨q3, q4⟩
        rw [L.up _ x y g1 (by omega) x1 x2 y1 y2] at q4
        exact q2 ⟨x, y, x1, x2, y1, y2, q3, q4.2.2⟩
      · rintro ⟨x, y, x1, x2, y1, y2, q3, q4⟩ q
        refine q x y x1 x2 y1 y2 ⟨q3, ?_⟩
        rw [L.up _ x y g1 (by omega) x1 x2 y1 y2]
        have := hz x y x1 x2 y1 y2 q3
        exact ⟨this.1, this.2, q4⟩
    have top : ∀ g, 0 ≤ g → g < 9 → (¬ z &&& (aJ h (la + 2) (g + 1).toNat ^^^ -1) = 0 ↔ ∃ x y, 0 ≤ x ∧ x < 8 ∧ 0 ≤ y ∧ y < 8 ∧ zb z (8 * y + x) ∧ g + 1 < s (11 + 8 * y + x)) := by
      intro g g1 g2
      rw [z_and0']
      constructor
      · intro q
        apply Classical.byContradiction
        intro q2
        apply q
        rintro x y x1 x2 y1 y2 ⟨q3, q4⟩
        rw [zb_not _ (by omega) (by omega), L.up _ x y (by omega) (by omega) x1 x2 y1 y2] at q4
        have := hz x y x1 x2 y1 y2 q3
        refine q2 ⟨x, y, x1, x2, y1, y2, q3, ?_⟩
        apply Classical.byContradiction
        intro q5
        exact q4 ⟨this.1, this.2, by omega⟩
      · rintro ⟨x, y, x1, x2, y1, y2, q3, q4⟩ q
        refine q x y x1 x2 y1 y2 ⟨q3, ?_⟩
        rw [zb_not _ (by omega) (by omega), L.up _ x y (by omega) (by omega) x1 x2 y1 y2]
        omega
    by_cases hu : unev s z
    · rw [bP_t hu]
      have hu' := hu
      obtain ⟨x, y, x', y', ⟨x1, x2, y1, y2, hz1⟩, ⟨x1', x2', y1', y2', hz2⟩, hlt⟩ := hu
      have g0 := hS (11 + 8 * y + x) (by omega) (by omega)
      have v' := hz x' y' x1' x2' y1' y2' hz2
      have g9 := hD.2.1 x' y' x1' v'.1 y1' v'.2
      constructor
      · rintro (⟨g, g1, g2, -, gm, gp⟩ | ⟨gn, -⟩)
        · rw [bP_t] at gp
          · exact gp
          · rw [top g g1 g2]
            refine ⟨x', y', x1', x2', y1', y2', hz2, ?_⟩
            by_cases c : g ≤ s (11 + 8 * y + x)
            · omega
            · exact absurd ((low _ g0.1 (by omega)).mpr ⟨x, y, x1, x2, y1, y2, hz1, Int.le_refl _⟩) (gm _ g0.1 (by omega))
        · exact absurd ((low _ g0.1 (by omega)).mpr ⟨x, y, x1, x2, y1, y2, hz1, Int.le_refl _⟩) (gn _ g0.1 (by omega))
      · intro q
        rcases fstI_spec (P := fun g => ¬ z &&& aJ h (la + 2) g.toNat = 0) 9 0 (by omega) with ⟨-, gn⟩ | ⟨g1, g2, g3, g4⟩
        · exact absurd ((low _ g0.1 (by omega)).mpr ⟨x, y, x1, x2, y1, y2, hz1, Int.le_refl _⟩) (gn _ g0.1 (by omega))
        · refine Or.inl ⟨_, g1, by omega, g3, g4, ?_⟩
          rw [bP_t]
          · exact q
          · rw [top _ g1 (by omega)]
            refine ⟨x', y', x1', x2', y1', y2', hz2, ?_⟩
            by_cases c : fstI (fun g => ¬ z &&& aJ h (la + 2) g.toNat = 0) 9 0 ≤ s (11 + 8 * y + x)
            · omega
            · exact absurd ((low _ g0.1 (by omega)).mpr ⟨x, y, x1, x2, y1, y2, hz1, Int.le_refl _⟩) (g4 _ g0.1 (by omega))
    · rw [bP_f hu]
      have no : ∀ g : Int, 0 ≤ g → g < 9 → ¬ z &&& aJ h (la + 2) g.toNat = 0 → ¬ ¬ z &&& (aJ h (la + 2) (g + 1).toNat ^^^ -1) = 0 := by
        intro g g1 g2 q1 q2
        obtain ⟨x, y, x1, x2, y1, y2, hz1, k1⟩ := (low g g1 g2).mp q1
        obtain ⟨x', y', x1', x2', y1', y2', hz2, k2⟩ := (top g g1 g2).mp q2
        exact hu ⟨x, y, x', y', ⟨x1, x2, y1, y2, hz1⟩, ⟨x1', x2', y1', y2', hz2⟩, by omega⟩
      constructor
      · rintro (⟨g, g1, g2, g3, -, gp⟩ | ⟨-, q⟩)
        · rw [bP_f (no g g1 g2 g3)] at gp
          exact gp
        · exact q
      · intro q
        rcases fstI_spec (P := fun g => ¬ z &&& aJ h (la + 2) g.toNat = 0) 9 0 (by omega) with ⟨-, gn⟩ | ⟨g1, g2, g3, g4⟩
        · exact Or.inr ⟨fun j j1 j2 => gn j j1 (by omega), q⟩
        · refine Or.inl ⟨_, g1, by omega, g3, g4, ?_⟩
          rw [bP_f (no _ g1 (by omega) g3)]
          exact q
  · show wb_X1_isUneven_2 (wl_X1_isUneven_2 post n) h la z (iI k) post ↔ _
    unfold wb_X1_isUneven_2
    simp (disch := omega) only [LB.o0 H, LB.p2 H, LB.o1 H, LB.l1 H, LB.p3 H, LB.o2 H, LB.l2 H, LB.p4 H, LB.o3 H, LB.l3 H, LB.p6 H, LB.o4 H, LB.l4 H, LB.p7 H, LB.o5 H, LB.l5 H, LB.p8 H, LB.o6 H, LB.l6 H, LB.p9 H, LB.o7 H, LB.l7 H, LB.p10 H, LB.o8 H, LB.l8 H, LB.p12 H, LB.o9 H, LB.l9 H, LB.p14 H, LB.o10 H, LB.p15 H, LB.o16 H, LB.q10_1 H, LB.o11 H, LB.l11 H, LB.q10_2 H, LB.o12 H, LB.l12 H, LB.q10_3 H, LB.o13 H, LB.l13 H, LB.q10_4 H, LB.o14 H, LB.l14 H, LB.q10_5 H, LB.o15 H, LB.l15 H, LB.q16_1 H, LB.o17 H, LB.l17 H, LB.q16_2 H, LB.o18 H, LB.l18 H, LB.q16_3 H, LB.o19 H, LB.l19 H, LB.q16_4 H, LB.o20 H, LB.l20 H, fd0, fd1, fd2, fd3, fd4, fd5, fd6, fd7, fd8, fd9, fd10, fd11, fd12, fd13, fd14, fd15, fd16, fd17, fd18, fd19, fd20, fd21, fd22, fd23, fd24, fd25, fd26, fd27, fd28, fd29, fd30, fd31, fd32, fd33, fd34, fd35, fd36, fd37, fd38, fd39, fd40, fd41, fd42, fd43, fd44, fd45, fd46, fd47, fd48, fd49, fd50, fd51, fd52, -Int.reduceToNat, -Int32.reduceToNatClampNeg, il0, il1, il2, il3, il4, il5, il6, il7, il8, il9, il10, il11, il12, il13, il14, il15, il16, il17, il18, il19, il20, il21, il22, il23, il24, il25, il26, il27, il28, il29, il30, il31, il32, il35, il36, il38, il40, il42, il43, il44, il45, il46, il47, il48, il49, il50, il51, il52, il57, il59, il60, il63, il64, il75, il80, il95, il96, il97, il98, il99, il100, il120, il122, il123, il127, il128, il135, il167, il175, il225, il249, il250, il255, il256, il360, il370, il384, il600, il700, il740, il900, il940, il1024, il1600, il4800, il64000, il125000, il262143, il1000000000, iI_toInt, iI_add, iI_sub, iI_mul, iI_neg, iI_lt, iI_le, iI_eq, iI_n, iI_in, iI_div, iI_mod, iI_shm, iI_and1, iI_and7, iI_and63, iI_shr3, iI_shr6, rd_I, lgc, z_bit, ob, Option.some.injEq, exists_eq_left', exists_eq_left, true_and, and_true, forall_eq, forall_eq_apply_imp_iff, eq_self, true_or, or_true, bP_0, bP_0i, npP, bP_1i, bP_b, not_true_eq_false, not_false_eq_true, false_implies, true_implies, implies_true, Classical.not_not, and_self, cP, cP', ite_n, ite_T, ite_F, ite_t, ite_f]
    unfold bP
    by_cases c1 : z &&& aJ h (la + 2) k.toNat = 0
    · rw [ite_t c1, ite_t c1]
    · rw [ite_f c1, ite_f c1]
      by_cases c2 : z &&& (aJ h (la + 2) (k + 1).toNat ^^^ -1) = 0
      · rw [ite_t c2, ite_f (fun q => q c2)]
      · rw [ite_f c2, ite_t c2]
  · show wb_X1_isUneven_2 (wl_X1_isUneven_2 post n) h la z (iI _) post ↔ _
    unfold wb_X1_isUneven_2
    simp (disch := omega) only [LB.o0 H, LB.p2 H, LB.o1 H, LB.l1 H, LB.p3 H, LB.o2 H, LB.l2 H, LB.p4 H, LB.o3 H, LB.l3 H, LB.p6 H, LB.o4 H, LB.l4 H, LB.p7 H, LB.o5 H, LB.l5 H, LB.p8 H, LB.o6 H, LB.l6 H, LB.p9 H, LB.o7 H, LB.l7 H, LB.p10 H, LB.o8 H, LB.l8 H, LB.p12 H, LB.o9 H, LB.l9 H, LB.p14 H, LB.o10 H, LB.p15 H, LB.o16 H, LB.q10_1 H, LB.o11 H, LB.l11 H, LB.q10_2 H, LB.o12 H, LB.l12 H, LB.q10_3 H, LB.o13 H, LB.l13 H, LB.q10_4 H, LB.o14 H, LB.l14 H, LB.q10_5 H, LB.o15 H, LB.l15 H, LB.q16_1 H, LB.o17 H, LB.l17 H, LB.q16_2 H, LB.o18 H, LB.l18 H, LB.q16_3 H, LB.o19 H, LB.l19 H, LB.q16_4 H, LB.o20 H, LB.l20 H, fd0, fd1, fd2, fd3, fd4, fd5, fd6, fd7, fd8, fd9, fd10, fd11, fd12, fd13, fd14, fd15, fd16, fd17, fd18, fd19, fd20, fd21, fd22, fd23, fd24, fd25, fd26, fd27, fd28, fd29, fd30, fd31, fd32, fd33, fd34, fd35, fd36, fd37, fd38, fd39, fd40, fd41, fd42, fd43, fd44, fd45, fd46, fd47, fd48, fd49, fd50, fd51, fd52, -Int.reduceToNat, -Int32.reduceToNatClampNeg, il0, il1, il2, il3, il4, il5, il6, il7, il8, il9, il10, il11, il12, il13, il14, il15, il16, il17, il18, il19, il20, il21, il22, il23, il24, il25, il26, il27, il28, il29, il30, il31, il32, il35, il36, il38, il40, il42, il43, il44, il45, il46, il47, il48, il49, il50, il51, il52, il57, il59, il60, il63, il64, il75, il80, il95, il96, il97, il98, il99, il100, il120, il122, il123, il127, il128, il135, il167, il175, il225, il249, il250, il255, il256, il360, il370, il384, il600, il700, il740, il900, il940, il1024, il1600, il4800, il64000, il125000, il262143, il1000000000, iI_toInt, iI_add, iI_sub, iI_mul, iI_neg, iI_lt, iI_le, iI_eq, iI_n, iI_in, iI_div, iI_mod, iI_shm, iI_and1, iI_and7, iI_and63, iI_shr3, iI_shr6, rd_I, lgc, z_bit, ob, Option.some.injEq, exists_eq_left', exists_eq_left, true_and, and_true, forall_eq, forall_eq_apply_imp_iff, eq_self, true_or, or_true, bP_0, bP_0i, npP, bP_1i, bP_b, not_true_eq_false, not_false_eq_true, false_implies, true_implies, implies_true, Classical.not_not, and_self, cP, cP', ite_n, ite_T, ite_F, ite_t, ite_f]
end CLAG
