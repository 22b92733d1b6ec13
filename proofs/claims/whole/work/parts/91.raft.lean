/-! LINES of the class: raft -/
section RFT
variable {h h1 h2 h' h0 g : AH} {fr tx ci tb la : Nat} {postV : AH → Prop} {post : AH → Int32 → Prop} {postJ : AH → Int64 → Prop} {a b c d r x y n m p f fa q e k i lo hi v w hh dr td sp : Int} {T s : Int → Int} {l : List Int} {N : Int → List Int}
theorem CL.put {j : Nat} (C : CL h fr s N td) (hj : 4 ≤ j ∧ j ≤ 8) (F : Fr [fr + j] [] [] h h') (R : rd h' (fr + j) = updT (rd h (fr + j)) (s 2) v) : CL h' fr s N td := by
  have hfr := C.f5
  obtain ⟨H, L, M, st, ft, tt, fb⟩ := C
  have row : ∀ j', (j' ≤ 3 ∨ 9 ≤ j') → rd h' (fr + j') = rd h (fr + j') := fun j' hj' => F.row (by simp <;> omega)
  have rowx : ∀ j' : Nat, ∀ r : Int, r < s 2 → rd h' (fr + j') r = rd h (fr + j') r := fun j' r hr => by
    by_cases cj : j' = j
    · rw [cj, R, updT_n (by omega)]
    · rw [F.row (by simp <;> omega)]
  have E0 : ∀ j, (j : Int) = j → rd h' fr j = rd h fr j := fun j _ => by rw [F.row (by simp <;> omega)]
  have E10 : ∀ j, (j : Int) = j → rd h' (fr + 10) j = rd h (fr + 10) j := fun j _ => by rw [row 10 (by omega)]
  have E16 : ∀ j, (j : Int) = j → rd h' (fr + 16) j = rd h (fr + 16) j := fun j _ => by rw [row 16 (by omega)]
  have jow : ∀ j, j ≤ 20 → aJ h' (fr + j) = aJ h (fr + j) := fun j _ => by rw [F.2.2.2.2.2.1 _ (by simp)]
  have jow0 : ∀ j : Nat, j ≤ 20 → aJ h' fr j = aJ h fr j := fun j _ => by rw [F.2.2.2.2.2.1 _ (by simp)]
  have es : ∀ i, (i : Int) = i → s i = s i := fun _ _ => rfl
  exact ⟨LB.same F.1 F.2.2.1 F.2.2.2.1 F.aPe H, ⟨(by rw [E0 0 (by omega), es 0 (by omega)]; exact L.c0), (by rw [E0 1 (by omega), es 1 (by omega)]; exact L.c1), (by rw [E0 5 (by omega), es 2 (by omega)]; exact L.c5), (by rw [E0 11 (by omega), es 3 (by omega)]; exact L.c11), (by rw [E10 0 (by omega), es 4 (by omega)]; exact L.q0), (by rw [E16 0 (by omega), es 5 (by omega)]; exact L.w0), (fun x y x0 x1 y0 y1 => by rw [es 0 (by omega)] at x1; rw [es 1 (by omega)] at y1; rw [row 1 (by omega), es _ (by omega)]; exact L.gr x y x0 x1 y0 y1), (fun g x y g0 g1 x0 x1 y0 y1 => by rw [es 0 (by omega), es 1 (by omega), es (11 + 8 * y + x) (by omega), jow 2 (by omega)]; exact L.up g x y g0 g1 x0 x1 y0 y1), (fun i i0 i1 => by rw [row 3 (by omega), es _ (by omega)]; exact L.td i i0 i1), (fun r r0 r1 => by rw [rowx 5 r r1]; exact L.wi r r0 r1), (fun r r0 r1 => by rw [rowx 6 r r1]; exact L.hi r r0 r1), (fun r r0 r1 => by rw [rowx 7 r r1]; exact L.dr r r0 r1), (fun r r0 r1 => by rw [es 3 (by omega)] at r1; rw [row 9 (by omega), es _ (by omega), es _ (by omega)]; exact L.po r r0 r1), (fun r r0 r1 => by rw [es 4 (by omega)] at r1; rw [row 11 (by omega), es _ (by omega)]; exact L.ro r r0 r1), (fun r r0 r1 => by rw [es 4 (by omega)] at r1; rw [row 12 (by omega), es _ (by omega)]; exact L.rp r r0 r1), (fun r r0 r1 => by rw [es 4 (by omega)] at r1; rw [row 13 (by omega), es _ (by omega)]; exact L.rq r r0 r1), (fun r r0 r1 => by rw [es 4 (by omega)] at r1; rw [row 14 (by omega), es _ (by omega)]; exact L.rh r r0 r1), (fun r r0 r1 => by rw [row 15 (by omega), es _ (by omega)]; exact L.mo r r0 r1), (fun r r0 r1 => by rw [es 5 (by omega)] at r1; rw [row 17 (by omega), es _ (by omega)]; exact L.wk r r0 r1), (fun r r0 r1 => by rw [es 5 (by omega)] at r1; rw [row 18 (by omega), es _ (by omega)]; exact L.wh r r0 r1), (fun r r0 r1 => by rw [es 5 (by omega)] at r1; rw [row 19 (by omega), es (175 + 5 * r) (by omega), es (175 + 5 * r + 3) (by omega), es (175 + 5 * r + 2) (by omega)]; exact L.wt r r0 r1), (fun r r0 r1 => by rw [es 5 (by omega)] at r1; rw [row 20 (by omega), es _ (by omega)]; exact L.ww r r0 r1), (fun x y x0 x1 y0 y1 => by rw [es 6 (by omega), es 7 (by omega), es 8 (by omega), es 9 (by omega), ← L.sq x y x0 x1 y0 y1, jow0 13 (by omega)])⟩, fun r r0 r1 => by rw [rowx 4 r r1]; exact M r r0 r1, fun r r0 r1 => by rw [rowx 8 r r1]; exact st r r0 r1, by rw [F.aPe]; exact ft, by rw [F.row (by simp <;> omega)]; exact tt, fb⟩
theorem c_wideV (H : LB h la) (h1 : 0 ≤ r) (h2 : r < 8) (h4 : sp < 64) (h4' : 0 ≤ sp) (ew : rd h (la + 5) r = w) : wp_X1_wideAt h la (iI r) (iI sp) post ↔ post h (iI w) := by
  unfold wp_X1_wideAt
  simp (disch := omega) only [LB.o0 H, LB.p7 H, LB.o5 H, LB.l5 H, fd0, fd1, fd2, fd3, fd4, fd5, fd6, fd7, fd8, fd9, fd10, fd11, fd12, fd13, fd14, fd15, fd16, fd17, fd18, fd19, fd20, fd21, fd22, fd23, fd24, fd25, fd26, fd27, fd28, fd29, fd30, fd31, fd32, fd33, fd34, fd35, fd36, fd37, fd38, fd39, fd40, fd41, fd42, fd43, fd44, fd45, fd46, fd47, fd48, fd49, fd50, fd51, fd52, ew, -Int.reduceToNat, -Int32.reduceToNatClampNeg, il0, il1, il2, il3, il4, il5, il6, il7, il8, il9, il10, il11, il12, il13, il14, il15, il16, il17, il18, il19, il20, il21, il22, il23, il24, il25, il26, il27, il28, il29, il30, il31, il32, il35, il36, il38, il40, il42, il43, il44, il45, il46, il47, il48, il49, il50, il51, il52, il57, il59, il60, il63, il64, il75, il80, il95, il96, il97, il98, il99, il100, il120, il122, il123, il127, il128, il135, il167, il175, il225, il249, il250, il255, il256, il360, il370, il384, il600, il700, il740, il900, il940, il1024, il1600, il4800, il64000, il125000, il262143, il1000000000, iI_toInt, iI_add, iI_sub, iI_mul, iI_neg, iI_lt, iI_le, iI_eq, iI_n, iI_in, iI_div, iI_mod, iI_shm, iI_and1, iI_and7, iI_and63, iI_shr3, iI_shr6, rd_I, ob, Option.some.injEq, exists_eq_left', exists_eq_left, true_and, and_true, fqI, fqJ, eq_self, true_or, or_true, bP_0, bP_0i, npP, bP_1i, bP_b, not_true_eq_false, not_false_eq_true, false_implies, true_implies, implies_true, Classical.not_not, and_self, cP, cP', ite_n, ite_f]
theorem c_highV (H : LB h la) (h1 : 0 ≤ r) (h2 : r < 8) (h4 : sp < 64) (h4' : 0 ≤ sp) (ew : rd h (la + 6) r = w) : wp_X1_highAt h la (iI r) (iI sp) post ↔ post h (iI w) := by
  unfold wp_X1_highAt
  simp (disch := omega) only [LB.o0 H, LB.p8 H, LB.o6 H, LB.l6 H, fd0, fd1, fd2, fd3, fd4, fd5, fd6, fd7, fd8, fd9, fd10, fd11, fd12, fd13, fd14, fd15, fd16, fd17, fd18, fd19, fd20, fd21, fd22, fd23, fd24, fd25, fd26, fd27, fd28, fd29, fd30, fd31, fd32, fd33, fd34, fd35, fd36, fd37, fd38, fd39, fd40, fd41, fd42, fd43, fd44, fd45, fd46, fd47, fd48, fd49, fd50, fd51, fd52, ew, -Int.reduceToNat, -Int32.reduceToNatClampNeg, il0, il1, il2, il3, il4, il5, il6, il7, il8, il9, il10, il11, il12, il13, il14, il15, il16, il17, il18, il19, il20, il21, il22, il23, il24, il25, il26, il27, il28, il29, il30, il31, il32, il35, il36, il38, il40, il42, il43, il44, il45, il46, il47, il48, il49, il50, il51, il52, il57, il59, il60, il63, il64, il75, il80, il95, il96, il97, il98, il99, il100, il120, il122, il123, il127, il128, il135, il167, il175, il225, il249, il250, il255, il256, il360, il370, il384, il600, il700, il740, il900, il940, il1024, il1600, il4800, il64000, il125000, il262143, il1000000000, iI_toInt, iI_add, iI_sub, iI_mul, iI_neg, iI_lt, iI_le, iI_eq, iI_n, iI_in, iI_div, iI_mod, iI_shm, iI_and1, iI_and7, iI_and63, iI_shr3, iI_shr6, rd_I, ob, Option.some.injEq, exists_eq_left', exists_eq_left, true_and, and_true, fqI, fqJ, eq_self, true_or, or_true, bP_0, bP_0i, npP, bP_1i, bP_b, not_true_eq_false, not_false_eq_true, false_implies, true_implies, implies_true, Classical.not_not, and_self, cP, cP', ite_n, ite_f]
theorem c_holdsV (H : LB h la) (h1 : 0 ≤ r) (h2 : r < 8) (h4 : sp < 64) (h4' : 0 ≤ sp) (ew : rd h (la + 5) r = w) (eh : rd h (la + 6) r = hh) (bw : 1 ≤ w ∧ w ≤ 3) (bh : 1 ≤ hh ∧ hh ≤ 3) (e0 : rd h la 0 = c) (e1 : rd h la 1 = d) (cb : 0 ≤ c ∧ c ≤ 8) (db : 0 ≤ d ∧ d ≤ 8) (K1 : (sp % 8 + w ≤ c ∧ sp / 8 + hh ≤ d) → post h (iI 1)) (K0 : ¬ (sp % 8 + w ≤ c ∧ sp / 8 + hh ≤ d) → post h (iI 0)) : wp_X1_holds h la (iI r) (iI sp) post := by
  unfold wp_X1_holds
  have e8 : sp / 8 % 8 = sp / 8 := by omega
  simp (disch := omega) only [LB.o0 H, c_wideV H h1 h2 h4 h4' ew, c_highV H h1 h2 h4 h4' eh, fd0, fd1, fd2, fd3, fd4, fd5, fd6, fd7, fd8, fd9, fd10, fd11, fd12, fd13, fd14, fd15, fd16, fd17, fd18, fd19, fd20, fd21, fd22, fd23, fd24, fd25, fd26, fd27, fd28, fd29, fd30, fd31, fd32, fd33, fd34, fd35, fd36, fd37, fd38, fd39, fd40, fd41, fd42, fd43, fd44, fd45, fd46, fd47, fd48, fd49, fd50, fd51, fd52, e0, e1, e8, -Int.reduceToNat, -Int32.reduceToNatClampNeg, il0, il1, il2, il3, il4, il5, il6, il7, il8, il9, il10, il11, il12, il13, il14, il15, il16, il17, il18, il19, il20, il21, il22, il23, il24, il25, il26, il27, il28, il29, il30, il31, il32, il35, il36, il38, il40, il42, il43, il44, il45, il46, il47, il48, il49, il50, il51, il52, il57, il59, il60, il63, il64, il75, il80, il95, il96, il97, il98, il99, il100, il120, il122, il123, il127, il128, il135, il167, il175, il225, il249, il250, il255, il256, il360, il370, il384, il600, il700, il740, il900, il940, il1024, il1600, il4800, il64000, il125000, il262143, il1000000000, iI_toInt, iI_add, iI_sub, iI_mul, iI_neg, iI_lt, iI_le, iI_eq, iI_n, iI_in, iI_div, iI_mod, iI_shm, iI_and1, iI_and7, iI_and63, iI_shr3, iI_shr6, rd_I, ob, Option.some.injEq, exists_eq_left', exists_eq_left, true_and, and_true, fqI, fqJ, eq_self, true_or, or_true, bP_0, bP_0i, npP, bP_1i, bP_b, not_true_eq_false, not_false_eq_true, false_implies, true_implies, implies_true, Classical.not_not, and_self, cP, cP', ite_n]
  by_cases z1 : c < sp % 8 + w
  · rw [ite_t z1]; exact K0 (by omega)
  rw [ite_f z1]
  by_cases z2 : d < sp / 8 + hh
  · rw [ite_t z2]; exact K0 (by omega)
  · rw [ite_f z2]; exact K1 (by omega)
theorem c_coverV (H : LB h la) (h1 : 0 ≤ r) (h2 : r < 8) (h4 : sp < 64) (h4' : 0 ≤ sp) (ew : rd h (la + 5) r = w) (eh : rd h (la + 6) r = hh) (bw : 1 ≤ w ∧ w ≤ 3) (bh : 1 ≤ hh ∧ hh ≤ 3) (K : postJ h (cvZ w hh sp)) : wp_X1_coverAt h la (iI r) (iI sp) postJ := by
  unfold wp_X1_coverAt
  have e8 : sp % 64 = sp := by omega
  simp (disch := omega) only [LB.o0 H, c_wideV H h1 h2 h4 h4' ew, c_highV H h1 h2 h4 h4' eh, c_blockOf, e8, -Int.reduceToNat, -Int32.reduceToNatClampNeg, il0, il1, il2, il3, il4, il5, il6, il7, il8, il9, il10, il11, il12, il13, il14, il15, il16, il17, il18, il19, il20, il21, il22, il23, il24, il25, il26, il27, il28, il29, il30, il31, il32, il35, il36, il38, il40, il42, il43, il44, il45, il46, il47, il48, il49, il50, il51, il52, il57, il59, il60, il63, il64, il75, il80, il95, il96, il97, il98, il99, il100, il120, il122, il123, il127, il128, il135, il167, il175, il225, il249, il250, il255, il256, il360, il370, il384, il600, il700, il740, il900, il940, il1024, il1600, il4800, il64000, il125000, il262143, il1000000000, iI_toInt, iI_add, iI_sub, iI_mul, iI_neg, iI_lt, iI_le, iI_eq, iI_n, iI_in, iI_div, iI_mod, iI_shm, iI_and1, iI_and7, iI_and63, iI_shr3, iI_shr6, rd_I, ob, Option.some.injEq, exists_eq_left', exists_eq_left, true_and, and_true, fqI, fqJ, eq_self, true_or, or_true, bP_0, bP_0i, npP, bP_1i, bP_b, not_true_eq_false, not_false_eq_true, false_implies, true_implies, implies_true, Classical.not_not, and_self]
  exact K
theorem BA.rz (B : BA s td) (h1 : 0 ≤ r) (h2 : r < s 2) : ((1 ≤ s (99 + 3 * r) ∧ s (99 + 3 * r) ≤ 3) ∧ 1 ≤ s (99 + 3 * r + 1) ∧ s (99 + 3 * r + 1) ≤ 3) ∧ (0 ≤ s (225 + 3 * r) ∧ s (225 + 3 * r) + s (99 + 3 * r) ≤ s 0) ∧ 0 ≤ s (225 + 3 * r + 1) ∧ s (225 + 3 * r + 1) + s (99 + 3 * r + 1) ≤ s 1 := by
  obtain ⟨bb0, bb1, bb2, bb3, bb4, bb5⟩ := B.bds
  obtain ⟨v1, v2, v3⟩ := B.vt r h1 h2
  have sz := (B.gs.2.1.2.2 r h1 h2).1
  have t0 := B.t0 r h1 h2
  unfold insT wdT hiT at v2
  have e2 : tS s (3 * r + 2) = 0 := by rw [tS_i (by omega) (by omega), show 225 + (3 * r + 2) = 225 + 3 * r + 2 by omega]; exact t0
  rw [e2, tS_i (by omega) (by omega), tS_i (by omega) (by omega), zC_i (by omega) (by omega), zC_i (by omega) (by omega)] at v2
  rw [show 225 + (3 * r + 1) = 225 + 3 * r + 1 by omega, show 99 + (3 * r + 0) = 99 + 3 * r by omega, show 99 + (3 * r + 1 - 0) = 99 + 3 * r + 1 by omega] at v2
  omega
/-- on another -/
theorem c_onAn (R : RD T n m h 2 2 3 f fa p a) (C : CL h fr s N td) (B : BA s td) (h8 : s 2 < 8) (ew : rd h (fr + 5) (s 2) = w) (eh : rd h (fr + 6) (s 2) = hh) (bw : 1 ≤ w ∧ w ≤ 3) (bh : 1 ≤ hh ∧ hh ≤ 3) (es' : rd h (fr + 8) (s 2) = sp) (hs : 0 ≤ sp ∧ sp < 64) (K1 : (∃ o, 0 ≤ o ∧ o < s 2 ∧ cvZ w hh sp &&& cvZ (s (99 + 3 * o)) (s (99 + 3 * o + 1)) (8 * s (225 + 3 * o + 1) + s (225 + 3 * o)) ≠ 0) → post h (iI 1)) (K0 : ¬ (∃ o, 0 ≤ o ∧ o < s 2 ∧ cvZ w hh sp &&& cvZ (s (99 + 3 * o)) (s (99 + 3 * o + 1)) (8 * s (225 + 3 * o + 1) + s (225 + 3 * o)) ≠ 0) → post h (iI 0)) : wp_X2_isOnAnother h 2 (iI (s 2)) post := by
  have O := R.o
  have H := C.H
  have p12 := C.ft
  obtain ⟨bb0, bb1, bb2, bb3, bb4, bb5⟩ := B.bds
  have L := C.L
  unfold wp_X2_isOnAnother
  simp (disch := omega) only [O, p12, LB.o0 H, LB.p10 H, LB.o8 H, LB.l8 H, fd0, fd1, fd2, fd3, fd4, fd5, fd6, fd7, fd8, fd9, fd10, fd11, fd12, fd13, fd14, fd15, fd16, fd17, fd18, fd19, fd20, fd21, fd22, fd23, fd24, fd25, fd26, fd27, fd28, fd29, fd30, fd31, fd32, fd33, fd34, fd35, fd36, fd37, fd38, fd39, fd40, fd41, fd42, fd43, fd44, fd45, fd46, fd47, fd48, fd49, fd50, fd51, fd52, es', -Int.reduceToNat, -Int32.reduceToNatClampNeg, il0, il1, il2, il3, il4, il5, il6, il7, il8, il9, il10, il11, il12, il13, il14, il15, il16, il17, il18, il19, il20, il21, il22, il23, il24, il25, il26, il27, il28, il29, il30, il31, il32, il35, il36, il38, il40, il42, il43, il44, il45, il46, il47, il48, il49, il50, il51, il52, il57, il59, il60, il63, il64, il75, il80, il95, il96, il97, il98, il99, il100, il120, il122, il123, il127, il128, il135, il167, il175, il225, il249, il250, il255, il256, il360, il370, il384, il600, il700, il740, il900, il940, il1024, il1600, il4800, il64000, il125000, il262143, il1000000000, iI_toInt, iI_add, iI_sub, iI_mul, iI_neg, iI_lt, iI_le, iI_eq, iI_n, iI_in, iI_div, iI_mod, iI_shm, iI_and1, iI_and7, iI_and63, iI_shr3, iI_shr6, rd_I, ob, Option.some.injEq, exists_eq_left', exists_eq_left, true_and, and_true, fqI, fqJ, eq_self, true_or, or_true, bP_0, bP_0i, npP, bP_1i, bP_b, not_true_eq_false, not_false_eq_true, false_implies, true_implies, implies_true, Classical.not_not, and_self]
  refine c_coverV H (by omega) (by omega) hs.2 hs.1 ew eh bw bh ?_
  refine (lp_any (post := post) (h := h) (W := fun n i => wl_X2_isOnAnother_21 post n h 2 (iI (s 2)) (cvZ w hh sp) (iI i)) (P := fun o => cvZ w hh sp &&& cvZ (s (99 + 3 * o)) (s (99 + 3 * o + 1)) (8 * s (225 + 3 * o + 1) + s (225 + 3 * o)) ≠ 0) (lo := 0) (hi := s 2) bb2.1 (fun _ => id) (fun n i i0 i1 => ?_) (fun n => ?_)).mpr ?_
  · show wb_X2_isOnAnother_21 (wl_X2_isOnAnother_21 post n) h 2 (iI (s 2)) (cvZ w hh sp) (iI i) post ↔ _
    have z := B.rz i0 i1
    have sti := C.st i i0 i1
    have sb : 0 ≤ 8 * s (225 + 3 * i + 1) + s (225 + 3 * i) ∧ 8 * s (225 + 3 * i + 1) + s (225 + 3 * i) < 64 := by omega
    generalize hsi : 8 * s (225 + 3 * i + 1) + s (225 + 3 * i) = si at sti sb
    have e1 : wsp s i si = s (99 + 3 * i) := if_neg (by omega)
    have e2 : hsp s i si = s (99 + 3 * i + 1) := if_neg (by omega)
    have e3 : si % 64 = si := by omega
    unfold wb_X2_isOnAnother_21
    simp (disch := omega) only [O, p12, LB.o0 H, LB.p10 H, LB.o8 H, LB.l8 H, fd0, fd1, fd2, fd3, fd4, fd5, fd6, fd7, fd8, fd9, fd10, fd11, fd12, fd13, fd14, fd15, fd16, fd17, fd18, fd19, fd20, fd21, fd22, fd23, fd24, fd25, fd26, fd27, fd28, fd29, fd30, fd31, fd32, fd33, fd34, fd35, fd36, fd37, fd38, fd39, fd40, fd41, fd42, fd43, fd44, fd45, fd46, fd47, fd48, fd49, fd50, fd51, fd52, sti, c_coverAt H L B.gs.2.1 i0 i1 bb2.2, e1, e2, e3, -Int.reduceToNat, -Int32.reduceToNatClampNeg, il0, il1, il2, il3, il4, il5, il6, il7, il8, il9, il10, il11, il12, il13, il14, il15, il16, il17, il18, il19, il20, il21, il22, il23, il24, il25, il26, il27, il28, il29, il30, il31, il32, il35, il36, il38, il40, il42, il43, il44, il45, il46, il47, il48, il49, il50, il51, il52, il57, il59, il60, il63, il64, il75, il80, il95, il96, il97, il98, il99, il100, il120, il122, il123, il127, il128, il135, il167, il175, il225, il249, il250, il255, il256, il360, il370, il384, il600, il700, il740, il900, il940, il1024, il1600, il4800, il64000, il125000, il262143, il1000000000, iI_toInt, iI_add, iI_sub, iI_mul, iI_neg, iI_lt, iI_le, iI_eq, iI_n, iI_in, iI_div, iI_mod, iI_shm, iI_and1, iI_and7, iI_and63, iI_shr3, iI_shr6, rd_I, lgc, z_bit, ob, Option.some.injEq, exists_eq_left', exists_eq_left, true_and, and_true, fqI, fqJ, eq_self, true_or, or_true, bP_0, bP_0i, npP, bP_1i, bP_b, not_true_eq_false, not_false_eq_true, false_implies, true_implies, implies_true, Classical.not_not, and_self, cP, cP', ite_n, ite_f]
  · show wb_X2_isOnAnother_21 (wl_X2_isOnAnother_21 post n) h 2 (iI (s 2)) (cvZ w hh sp) (iI (s 2)) post ↔ _
    unfold wb_X2_isOnAnother_21
    simp (disch := omega) only [-Int.reduceToNat, -Int32.reduceToNatClampNeg, il0, il1, il2, il3, il4, il5, il6, il7, il8, il9, il10, il11, il12, il13, il14, il15, il16, il17, il18, il19, il20, il21, il22, il23, il24, il25, il26, il27, il28, il29, il30, il31, il32, il35, il36, il38, il40, il42, il43, il44, il45, il46, il47, il48, il49, il50, il51, il52, il57, il59, il60, il63, il64, il75, il80, il95, il96, il97, il98, il99, il100, il120, il122, il123, il127, il128, il135, il167, il175, il225, il249, il250, il255, il256, il360, il370, il384, il600, il700, il740, il900, il940, il1024, il1600, il4800, il64000, il125000, il262143, il1000000000, iI_toInt, iI_add, iI_sub, iI_mul, iI_neg, iI_lt, iI_le, iI_eq, iI_n, iI_in, iI_div, iI_mod, iI_shm, iI_and1, iI_and7, iI_and63, iI_shr3, iI_shr6, rd_I, ob, Option.some.injEq, exists_eq_left', exists_eq_left, true_and, and_true, fqI, fqJ, eq_self, true_or, or_true, bP_0, bP_0i, npP, bP_1i, bP_b, not_true_eq_false, not_false_eq_true, false_implies, true_implies, implies_true, Classical.not_not, and_self, cP, cP', ite_n, ite_t]
  · by_cases ce : ∃ o, 0 ≤ o ∧ o < s 2 ∧ cvZ w hh sp &&& cvZ (s (99 + 3 * o)) (s (99 + 3 * o + 1)) (8 * s (225 + 3 * o + 1) + s (225 + 3 * o)) ≠ 0
    · rw [bP_t ce]; exact K1 ce
    · rw [bP_f ce]; exact K0 ce
theorem cv_ov {w1 h1 x1 y1 w2 h2 x2 y2 : Int} (a1 : 1 ≤ w1) (a2 : 1 ≤ h1) (a3 : 0 ≤ x1) (a4 : x1 + w1 ≤ 8) (a5 : 0 ≤ y1) (a6 : y1 + h1 ≤ 8) (b1 : 1 ≤ w2) (b2 : 1 ≤ h2) (b3 : 0 ≤ x2) (b4 : x2 + w2 ≤ 8) (b5 : 0 ≤ y2) (b6 : y2 + h2 ≤ 8) : cvZ w1 h1 (8 * y1 + x1) &&& cvZ w2 h2 (8 * y2 + x2) ≠ 0 ↔ (x1 < x2 + w2 ∧ x2 < x1 + w1) ∧ y1 < y2 + h2 ∧ y2 < y1 + h1 := by
  have z1 : ∀ X Y : Int, 0 ≤ X → X < 8 → 0 ≤ Y → Y < 8 → (zb (cvZ w1 h1 (8 * y1 + x1)) (8 * Y + X) ↔ x1 ≤ X ∧ X < x1 + w1 ∧ y1 ≤ Y ∧ Y < y1 + h1) := fun X Y X0 X1 Y0 Y1 => zb_cv (by omega) (by omega) (by omega) (by omega) (by omega) (by omega) (by omega) (by omega) X0 X1 Y0 Y1
  have z2 : ∀ X Y : Int, 0 ≤ X → X < 8 → 0 ≤ Y → Y < 8 → (zb (cvZ w2 h2 (8 * y2 + x2)) (8 * Y + X) ↔ x2 ≤ X ∧ X < x2 + w2 ∧ y2 ≤ Y ∧ Y < y2 + h2) := fun X Y X0 X1 Y0 Y1 => zb_cv (by omega) (by omega) (by omega) (by omega) (by omega) (by omega) (by omega) (by omega) X0 X1 Y0 Y1
  constructor
  · intro u
    refine Classical.byContradiction fun nn => u (zb_ext fun k k0 k1 => ⟨fun v => ?_, fun v => absurd v (zb_0 _)⟩)
    rw [zb_and] at v
    have e := z1 (k % 8) (k / 8) (by omega) (by omega) (by omega) (by omega)
    have e' := z2 (k % 8) (k / 8) (by omega) (by omega) (by omega) (by omega)
    rw [show 8 * (k / 8) + k % 8 = k by omega] at e e'
    have := e.mp v.1
    have := e'.mp v.2
    omega
  · intro u v
    have X : ∃ X, x1 ≤ X ∧ X < x1 + w1 ∧ x2 ≤ X ∧ X < x2 + w2 := by
      by_cases c : x1 ≤ x2
      · exact ⟨x2, by omega⟩
      · exact ⟨x1, by omega⟩
    have Y : ∃ Y, y1 ≤ Y ∧ Y < y1 + h1 ∧ y2 ≤ Y ∧ Y < y2 + h2 := by
      by_cases c : y1 ≤ y2
      · exact ⟨y2, by omega⟩
      · exact ⟨y1, by omega⟩
    obtain ⟨X, X1⟩ := X
    obtain ⟨Y, Y1⟩ := Y
    have e := (z1 X Y (by omega) (by omega) (by omega) (by omega)).mpr (by omega)
    have e' := (z2 X Y (by omega) (by omega) (by omega) (by omega)).mpr (by omega)
    have ee := (zb_and _ _ _).mpr ⟨e, e'⟩
    rw [v] at ee
    exact zb_0 _ ee
/-- the five numbers of the RAFT that is read -/
def NwR (h : AH) (fr : Nat) (s : Int → Int) (w hh dr sp : Int) : Prop := (rd h (fr + 5) (s 2) = w) ∧ (rd h (fr + 6) (s 2) = hh) ∧ (rd h (fr + 7) (s 2) = dr) ∧ (rd h (fr + 8) (s 2) = sp) ∧ (1 ≤ w ∧ w ≤ 3) ∧ (1 ≤ hh ∧ hh ≤ 3) ∧ (0 ≤ sp ∧ sp < 64)
theorem NwR.ew {h : AH} {fr : Nat} {s : Int → Int} {w hh dr sp : Int} (R : NwR h fr s w hh dr sp) : rd h (fr + 5) (s 2) = w := R.1
theorem NwR.eh {h : AH} {fr : Nat} {s : Int → Int} {w hh dr sp : Int} (R : NwR h fr s w hh dr sp) : rd h (fr + 6) (s 2) = hh := R.2.1
theorem NwR.ed {h : AH} {fr : Nat} {s : Int → Int} {w hh dr sp : Int} (R : NwR h fr s w hh dr sp) : rd h (fr + 7) (s 2) = dr := R.2.2.1
theorem NwR.es {h : AH} {fr : Nat} {s : Int → Int} {w hh dr sp : Int} (R : NwR h fr s w hh dr sp) : rd h (fr + 8) (s 2) = sp := R.2.2.2.1
theorem NwR.bw {h : AH} {fr : Nat} {s : Int → Int} {w hh dr sp : Int} (R : NwR h fr s w hh dr sp) : 1 ≤ w ∧ w ≤ 3 := R.2.2.2.2.1
theorem NwR.bh {h : AH} {fr : Nat} {s : Int → Int} {w hh dr sp : Int} (R : NwR h fr s w hh dr sp) : 1 ≤ hh ∧ hh ≤ 3 := R.2.2.2.2.2.1
theorem NwR.bs {h : AH} {fr : Nat} {s : Int → Int} {w hh dr sp : Int} (R : NwR h fr s w hh dr sp) : 0 ≤ sp ∧ sp < 64 := R.2.2.2.2.2.2
def NwN (h : AH) (fr : Nat) (s : Int → Int) (l : List Int) : Prop := rd h (fr + 4) (s 2) = w5 l ∧ Ltr l ∧ l.length ≤ 6
theorem NwR.tf (W : NwR h fr s w hh dr sp) (hf : 5 ≤ fr) (t : tfF h h' 2) : NwR h' fr s w hh dr sp := by
  have row : ∀ j, rd h' (fr + j) = rd h (fr + j) := fun j => t.1.row (by simp <;> omega)
  exact ⟨by rw [row]; exact W.ew, by rw [row]; exact W.eh, by rw [row]; exact W.ed, by rw [row]; exact W.es, W.bw, W.bh, W.bs⟩
theorem NwN.tf (W : NwN h fr s l) (hf : 5 ≤ fr) (t : tfF h h' 2) : NwN h' fr s l := by
  have row : ∀ j, rd h' (fr + j) = rd h (fr + j) := fun j => t.1.row (by simp <;> omega)
  exact ⟨by rw [row]; exact W.1, W.2⟩
theorem c_raft154 (R : RD T n m h 2 2 3 f fa p a) (C : CL h fr s N td) (B : BA s td) (h8 : s 2 < 8) (W : NwR h fr s w hh dr sp) (hN : f = 0 → NwN h fr s l ∧ sp = 8 * y + x) (K : ∀ h', CO T n m fr h h' (iteP (f = 0) (okR (rafU s w hh dr x y) (updN N (s 2) l) td p) (bdR f fa)) → postV h') : wb_X2_readNewRaft_154 h 2 postV := by
  have O := R.o
  have H := C.H
  have p12 := C.ft
  have c5 := C.L.c5
  have hfr := C.f5
  obtain ⟨bb0, bb1, bb2, bb3, bb4, bb5⟩ := B.bds
  unfold wb_X2_readNewRaft_154
  simp (disch := omega) only [O, p12, LB.o0 H, fd0, fd1, fd2, fd3, fd4, fd5, fd6, fd7, fd8, fd9, fd10, fd11, fd12, fd13, fd14, fd15, fd16, fd17, fd18, fd19, fd20, fd21, fd22, fd23, fd24, fd25, fd26, fd27, fd28, fd29, fd30, fd31, fd32, fd33, fd34, fd35, fd36, fd37, fd38, fd39, fd40, fd41, fd42, fd43, fd44, fd45, fd46, fd47, fd48, fd49, fd50, fd51, fd52, c5, -Int.reduceToNat, -Int32.reduceToNatClampNeg, il0, il1, il2, il3, il4, il5, il6, il7, il8, il9, il10, il11, il12, il13, il14, il15, il16, il17, il18, il19, il20, il21, il22, il23, il24, il25, il26, il27, il28, il29, il30, il31, il32, il35, il36, il38, il40, il42, il43, il44, il45, il46, il47, il48, il49, il50, il51, il52, il57, il59, il60, il63, il64, il75, il80, il95, il96, il97, il98, il99, il100, il120, il122, il123, il127, il128, il135, il167, il175, il225, il249, il250, il255, il256, il360, il370, il384, il600, il700, il740, il900, il940, il1024, il1600, il4800, il64000, il125000, il262143, il1000000000, iI_toInt, iI_add, iI_sub, iI_mul, iI_neg, iI_lt, iI_le, iI_eq, iI_n, iI_in, iI_div, iI_mod, iI_shm, iI_and1, iI_and7, iI_and63, iI_shr3, iI_shr6, rd_I, ob, Option.some.injEq, exists_eq_left', exists_eq_left, true_and, and_true, fqI, fqJ, eq_self, true_or, or_true, bP_0, bP_0i, npP, bP_1i, bP_b, not_true_eq_false, not_false_eq_true, false_implies, true_implies, implies_true, Classical.not_not, and_self]
  intro g1 e1
  obtain ⟨f1, r1⟩ := wI (i := 5) (by omega) (by omega) (by omega) e1
  have R1 := R.bI (fr := fr) (j := fr) (by omega) hfr f1
  refine K g1 (CO.fin (f1.bI (by omega)) R1 fun z => ?_)
  obtain ⟨⟨n1, n2, n3⟩, e8⟩ := hN z
  obtain ⟨_, L, M, st, ft, tt, fb⟩ := C
  have row : ∀ j, (1 ≤ j ∧ j ≤ 20) → rd g1 (fr + j) = rd h (fr + j) := fun j hj => f1.row (by simp <;> omega)
  have E0 : ∀ j : Int, j ≠ 5 → rd g1 fr j = rd h fr j := fun j hj => by rw [r1, updT_n hj]
  have E10 : ∀ j, (j : Int) = j → rd g1 (fr + 10) j = rd h (fr + 10) j := fun j _ => by rw [row 10 (by omega)]
  have E16 : ∀ j, (j : Int) = j → rd g1 (fr + 16) j = rd h (fr + 16) j := fun j _ => by rw [row 16 (by omega)]
  have jow : ∀ j, j ≤ 20 → aJ g1 (fr + j) = aJ h (fr + j) := fun j _ => by rw [f1.2.2.2.2.2.1 _ (by simp)]
  have jow0 : ∀ j : Nat, j ≤ 20 → aJ g1 fr j = aJ h fr j := fun j _ => by rw [f1.2.2.2.2.2.1 _ (by simp)]
  have es : ∀ i, (i ≠ 2 ∧ (i < 99 + 3 * s 2 ∨ 99 + 3 * s 2 + 2 < i) ∧ (i < 225 + 3 * s 2 ∨ 225 + 3 * s 2 + 2 < i)) → rafU s w hh dr x y i = s i := fun i hi => by unfold rafU; rw [updT_n (by omega), updT_n (by omega), updT_n (by omega), updT_n (by omega), updT_n (by omega), updT_n (by omega), updT_n (by omega)]
  have s2 : rafU s w hh dr x y 2 = s 2 + 1 := by unfold rafU; rw [updT_s]
  have sA : rafU s w hh dr x y (99 + 3 * s 2) = w := by unfold rafU; rw [updT_n (by omega), updT_n (by omega), updT_n (by omega), updT_n (by omega), updT_n (by omega), updT_n (by omega), updT_s]
  have sB : rafU s w hh dr x y (99 + 3 * s 2 + 1) = hh := by unfold rafU; rw [updT_n (by omega), updT_n (by omega), updT_n (by omega), updT_n (by omega), updT_n (by omega), updT_s]
  have sC : rafU s w hh dr x y (99 + 3 * s 2 + 2) = dr := by unfold rafU; rw [updT_n (by omega), updT_n (by omega), updT_n (by omega), updT_n (by omega), updT_s]
  have sX : rafU s w hh dr x y (225 + 3 * s 2) = x := by unfold rafU; rw [updT_n (by omega), updT_n (by omega), updT_n (by omega), updT_s]
  have sY : rafU s w hh dr x y (225 + 3 * s 2 + 1) = y := by unfold rafU; rw [updT_n (by omega), updT_n (by omega), updT_s]
  exact ⟨LB.same f1.1 f1.2.2.1 f1.2.2.2.1 f1.aPe H, ⟨(by rw [E0 0 (by omega), es 0 (by omega)]; exact L.c0), (by rw [E0 1 (by omega), es 1 (by omega)]; exact L.c1), (by rw [r1, updT_s, s2]), (by rw [E0 11 (by omega), es 3 (by omega)]; exact L.c11), (by rw [E10 0 (by omega), es 4 (by omega)]; exact L.q0), (by rw [E16 0 (by omega), es 5 (by omega)]; exact L.w0), (fun x y x0 x1 y0 y1 => by rw [es 0 (by omega)] at x1; rw [es 1 (by omega)] at y1; rw [row 1 (by omega), es _ (by omega)]; exact L.gr x y x0 x1 y0 y1), (fun g x y g0 g1 x0 x1 y0 y1 => by rw [es 0 (by omega), es 1 (by omega), es (11 + 8 * y + x) (by omega), jow 2 (by omega)]; exact L.up g x y g0 g1 x0 x1 y0 y1), (fun i i0 i1 => by rw [row 3 (by omega), es _ (by omega)]; exact L.td i i0 i1), (fun r r0 r1 => by rw [s2] at r1; rw [row 5 (by omega)]; by_cases cr : r = s 2; { rw [cr, sA]; exact W.ew }; { rw [es _ (by omega)]; exact L.wi r r0 (by omega) }), (fun r r0 r1 => by rw [s2] at r1; rw [row 6 (by omega)]; by_cases cr : r = s 2; { rw [cr, sB]; exact W.eh }; { rw [es _ (by omega)]; exact L.hi r r0 (by omega) }), (fun r r0 r1 => by rw [s2] at r1; rw [row 7 (by omega)]; by_cases cr : r = s 2; { rw [cr, sC]; exact W.ed }; { rw [es _ (by omega)]; exact L.dr r r0 (by omega) }), (fun r r0 r1 => by rw [es 3 (by omega)] at r1; rw [row 9 (by omega), es _ (by omega), es _ (by omega)]; exact L.po r r0 r1), (fun r r0 r1 => by rw [es 4 (by omega)] at r1; rw [row 11 (by omega), es _ (by omega)]; exact L.ro r r0 r1), (fun r r0 r1 => by rw [es 4 (by omega)] at r1; rw [row 12 (by omega), es _ (by omega)]; exact L.rp r r0 r1), (fun r r0 r1 => by rw [es 4 (by omega)] at r1; rw [row 13 (by omega), es _ (by omega)]; exact L.rq r r0 r1), (fun r r0 r1 => by rw [es 4 (by omega)] at r1; rw [row 14 (by omega), es _ (by omega)]; exact L.rh r r0 r1), (fun r r0 r1 => by rw [row 15 (by omega), es _ (by omega)]; exact L.mo r r0 r1), (fun r r0 r1 => by rw [es 5 (by omega)] at r1; rw [row 17 (by omega), es _ (by omega)]; exact L.wk r r0 r1), (fun r r0 r1 => by rw [es 5 (by omega)] at r1; rw [row 18 (by omega), es _ (by omega)]; exact L.wh r r0 r1), (fun r r0 r1 => by rw [es 5 (by omega)] at r1; rw [row 19 (by omega), es (175 + 5 * r) (by omega), es (175 + 5 * r + 3) (by omega), es (175 + 5 * r + 2) (by omega)]; exact L.wt r r0 r1), (fun r r0 r1 => by rw [es 5 (by omega)] at r1; rw [row 20 (by omega), es _ (by omega)]; exact L.ww r r0 r1), (fun x y x0 x1 y0 y1 => by rw [es 6 (by omega), es 7 (by omega), es 8 (by omega), es 9 (by omega), ← L.sq x y x0 x1 y0 y1, jow0 13 (by omega)])⟩, fun r r0 r1 => by rw [s2] at r1; rw [row 4 (by omega)]; unfold updN; by_cases cr : r = s 2; { rw [if_pos cr, cr]; exact ⟨n1, n2, n3⟩ }; { rw [if_neg cr]; exact M r r0 (by omega) }, fun r r0 r1 => by rw [s2] at r1; rw [row 8 (by omega)]; by_cases cr : r = s 2; { rw [cr, sX, sY, W.es]; exact e8 }; { rw [es _ (by omega), es _ (by omega)]; exact st r r0 (by omega) }, by rw [f1.aPe]; exact p12, by rw [f1.row (by simp <;> omega)]; exact tt, fb⟩
theorem c_raft141 (R : RD T n m h 2 2 3 f fa p a) (C : CL h fr s N td) (B : BA s td) (h8 : s 2 < 8) (W : NwR h fr s w hh dr sp) (hN : f = 0 → NwN h fr s l ∧ sp = 8 * y + x ∧ (0 ≤ x ∧ x + w ≤ s 0) ∧ 0 ≤ y ∧ y + hh ≤ s 1) (K : ∀ h', CO T n m fr h h' (iteP (f = 0) (iteP (∃ o, 0 ≤ o ∧ o < s 2 ∧ ovN s o w hh x y) (bdR 3 a) (okR (rafU s w hh dr x y) (updN N (s 2) l) td p)) (bdR f fa)) → postV h') : wb_X2_readNewRaft_141 h 2 (iI (s 2)) postV := by
  have O := R.o
  have hfr := C.f5
  obtain ⟨bb0, bb1, bb2, bb3, bb4, bb5⟩ := B.bds
  have eqv : f = 0 → ((∃ o, 0 ≤ o ∧ o < s 2 ∧ cvZ w hh sp &&& cvZ (s (99 + 3 * o)) (s (99 + 3 * o + 1)) (8 * s (225 + 3 * o + 1) + s (225 + 3 * o)) ≠ 0) ↔ ∃ o, 0 ≤ o ∧ o < s 2 ∧ ovN s o w hh x y) := fun z => by
    obtain ⟨_, e8, z1, z2⟩ := hN z
    have bw := W.bw
    have bh := W.bh
    have one : ∀ o, 0 ≤ o → o < s 2 → (cvZ w hh sp &&& cvZ (s (99 + 3 * o)) (s (99 + 3 * o + 1)) (8 * s (225 + 3 * o + 1) + s (225 + 3 * o)) ≠ 0 ↔ ovN s o w hh x y) := fun o o0 o1 => by
      have rz := B.rz o0 o1
      rw [e8, cv_ov (by omega) (by omega) (by omega) (by omega) (by omega) (by omega) (by omega) (by omega) (by omega) (by omega) (by omega) (by omega)]
      exact Iff.rfl
    exact ⟨fun ⟨o, o0, o1, o2⟩ => ⟨o, o0, o1, (one o o0 o1).mp o2⟩, fun ⟨o, o0, o1, o2⟩ => ⟨o, o0, o1, (one o o0 o1).mpr o2⟩⟩
  unfold wb_X2_readNewRaft_141
  refine ⟨O, c_onAn R C B h8 W.ew W.eh W.bw W.bh W.es W.bs (fun u => ⟨fun q => absurd q (by decide), fun _ => ⟨O, ?_⟩⟩) (fun u => ⟨fun _ => ?_, fun q => absurd rfl q⟩)⟩
  · rw [show (3 : Int32) = iI 3 from rfl]
    refine c_fail R (by omega) fun g2 f2 fa2 t2 R2 FR => c_raft154 (l := l) (x := x) (y := y) R2 (C.tf t2) B h8 (W.tf hfr t2) (fun z => by rcases FR with q | q <;> omega) fun h' co => K h' (CO.from t2.b2 ?_)
    by_cases z : f = 0
    · rw [FR.st (by omega) ((eqv z).mp u)]; exact co
    · rw [ite_f z]
      rcases FR with ⟨q1, q2, q3⟩ | q
      · rw [ite_f (by omega), q2, q3] at co; exact co
      · omega
  · refine c_raft154 (l := l) (x := x) (y := y) R C B h8 W (fun z => ⟨(hN z).1, (hN z).2.1⟩) fun h' co => K h' ?_
    rw [it_a fun z => ite_f fun q => u ((eqv z).mpr q)]
    exact co
theorem c_raft57 (R : RD T n m h 2 2 3 f fa p a) (C : CL h fr s N td) (B : BA s td) (h8 : s 2 < 8) (hN : f = 0 → NwN h fr s l) (K : ∀ h', CO T n m fr h h' (iteP (f = 0) (nuS T n m 1 3 p fun w q1 => nuS T n m 1 3 q1 fun hh q2 => nuS T n m 0 9 q2 fun dr q3 => ceS T n m (s 0) (s 1) q3 fun x y q4 q5 => iteP (x + w ≤ s 0 ∧ y + hh ≤ s 1) (iteP (∃ o, 0 ≤ o ∧ o < s 2 ∧ ovN s o w hh x y) (bdR 3 (tkA T n m q4)) (okR (rafU s w hh dr x y) (updN N (s 2) l) td q5)) (bdR 2 (tkA T n m q4))) (bdR f fa)) → postV h') : wb_X2_readNewRaft_57 h 2 (iI (s 2)) postV := by
  have hfr := C.f5
  obtain ⟨bb0, bb1, bb2, bb3, bb4, bb5⟩ := B.bds
  have v8 : vp_in (iI (s 2)) 8 := iI_in (by omega) (by omega) (by omega)
  have nI : (iI (s 2)).toNatClampNeg = (s 2).toNat := iI_n (by omega) (by omega)
  unfold wb_X2_readNewRaft_57
  rw [show (1 : Int32) = iI 1 from rfl, show (3 : Int32) = iI 3 from rfl]
  refine ⟨R.o, fr, C.ft, C.H.o0, fr + 5, C.H.p7, R.o, c_readNumber R (by omega) (by omega) fun g1 f1 fa1 p1 a1 w t1 R1 N1 => ?_⟩
  rw [N1.st] at K
  have wr := N1.rng
  have C1 := C.tf t1
  refine ⟨C1.H.o5, by rw [C1.H.l5]; exact v8, fun g2 e2 => ?_⟩
  rw [nI] at e2
  obtain ⟨F2, r2⟩ := wI (i := s 2) (by omega) (by omega) (by omega) e2
  have R2 := R1.bI (fr := fr) (j := fr + 5) (by omega) hfr F2
  have C2 := C1.put (by omega) F2 r2
  refine ⟨R2.o, fr, C2.ft, C2.H.o0, fr + 6, C2.H.p8, R2.o, c_readNumber R2 (by omega) (by omega) fun g3 f3 fa3 p3 a3 hh t3 R3 N3 => ?_⟩
  rw [N3.st] at K
  have hr := N3.rng
  have C3 := C2.tf t3
  refine ⟨C3.H.o6, by rw [C3.H.l6]; exact v8, fun g4 e4 => ?_⟩
  rw [nI] at e4
  obtain ⟨F4, r4⟩ := wI (i := s 2) (by omega) (by omega) (by omega) e4
  have R4 := R3.bI (fr := fr) (j := fr + 6) (by omega) hfr F4
  have C4 := C3.put (by omega) F4 r4
  rw [show (0 : Int32) = iI 0 from rfl, show (9 : Int32) = iI 9 from rfl]
  refine ⟨R4.o, fr, C4.ft, C4.H.o0, fr + 7, C4.H.p9, R4.o, c_readNumber R4 (by omega) (by omega) fun g5 f5 fa5 p5 a5 dr t5 R5 N5 => ?_⟩
  rw [N5.st] at K
  have dr' := N5.rng
  have C5 := C4.tf t5
  refine ⟨C5.H.o7, by rw [C5.H.l7]; exact v8, fun g6 e6 => ?_⟩
  rw [nI] at e6
  obtain ⟨F6, r6⟩ := wI (i := s 2) (by omega) (by omega) (by omega) e6
  have R6 := R5.bI (fr := fr) (j := fr + 7) (by omega) hfr F6
  have C6 := C5.put (by omega) F6 r6
  refine ⟨R6.o, fr, C6.ft, C6.H.o0, fr + 8, C6.H.p10, R6.o, c_readCell R6 C6.H C6.ft C6.L.c0 C6.L.c1 bb0 bb1 (by omega) fun g7 f7 fa7 p7 a7 sp t7 R7 CR => ?_⟩
  obtain ⟨x, y, q4, E7, hv, ok7⟩ := CR.st (ok := fun x y q4 q5 => iteP (x + w ≤ s 0 ∧ y + hh ≤ s 1) (iteP (∃ o, 0 ≤ o ∧ o < s 2 ∧ ovN s o w hh x y) (bdR 3 (tkA T n m q4)) (okR (rafU s w hh dr x y) (updN N (s 2) l) td q5)) (bdR 2 (tkA T n m q4)))
  rw [E7] at K
  have sb : 0 ≤ sp ∧ sp < 64 := by
    by_cases z : f7 = 0
    · rw [ite_t z] at hv
      have := ok7 z
      omega
    · rw [ite_f z] at hv; omega
  have C7 := C6.tf t7
  refine ⟨C7.H.o8, by rw [C7.H.l8]; exact v8, fun g8 e8 => ?_⟩
  rw [nI] at e8
  obtain ⟨F8, r8⟩ := wI (i := s 2) (by omega) (by omega) (by omega) e8
  have R8 := R7.bI (fr := fr) (j := fr + 8) (by omega) hfr F8
  have C8 := C7.put (by omega) F8 r8
  have FF : Fr (2 :: blk fr) (blk fr) [] h g8 := t1.b2.trans ((F2.bI (by omega)).trans (t3.b2.trans ((F4.bI (by omega)).trans (t5.b2.trans ((F6.bI (by omega)).trans (t7.b2.trans (F8.bI (by omega))))))))
  have W : NwR g8 fr s w hh dr sp := ⟨by rw [F8.row (by simp <;> omega), t7.1.row (by simp <;> omega), F6.row (by simp <;> omega), t5.1.row (by simp <;> omega), F4.row (by simp <;> omega), t3.1.row (by simp <;> omega), r2, updT_s], by rw [F8.row (by simp <;> omega), t7.1.row (by simp <;> omega), F6.row (by simp <;> omega), t5.1.row (by simp <;> omega), r4, updT_s], by rw [F8.row (by simp <;> omega), t7.1.row (by simp <;> omega), r6, updT_s], by rw [r8, updT_s], by omega, by omega, sb⟩
  have z0 : f7 = 0 → f = 0 := fun z => (N1.ok (N3.ok (N5.ok (ok7 z).1).1).1).1
  have hN8 : f7 = 0 → NwN g8 fr s l ∧ sp = 8 * y + x ∧ (0 ≤ x ∧ x < s 0) ∧ 0 ≤ y ∧ y < s 1 := fun z => by
    have u := hN (z0 z)
    have v := ok7 z
    rw [ite_t z] at hv
    exact ⟨⟨by rw [F8.row (by simp <;> omega), t7.1.row (by simp <;> omega), F6.row (by simp <;> omega), t5.1.row (by simp <;> omega), F4.row (by simp <;> omega), t3.1.row (by simp <;> omega), F2.row (by simp <;> omega), t1.1.row (by simp <;> omega)]; exact u.1, u.2⟩, hv, v.2.2.1, v.2.2.2⟩
  have O8 := R8.o
  have H8 := C8.H
  refine ⟨O8, fr, C8.ft, O8, fr, C8.ft, H8.o0, fr + 8, H8.p10, H8.o8, by rw [H8.l8]; exact v8, H8.o0, ?_⟩
  rw [nI, rd_I g8 (fr + 8) (show 0 ≤ s 2 by omega), W.es]
  refine c_holdsV H8 (by omega) (by omega) sb.2 sb.1 W.ew W.eh W.bw W.bh C8.L.c0 C8.L.c1 bb0 bb1 (fun u => ⟨fun _ => ?_, fun q => absurd q (by decide)⟩) (fun u => ⟨fun q => absurd rfl q, fun _ => ⟨O8, ?_⟩⟩)
  · refine c_raft141 (l := l) (x := x) (y := y) R8 C8 B h8 W (fun z => ?_) fun h' co => K h' (CO.from FF ?_)
    · obtain ⟨v1, v2, v3, v4⟩ := hN8 z
      exact ⟨v1, v2, by omega, by omega, by omega⟩
    · rw [it_a fun z => show iteP (x + w ≤ s 0 ∧ y + hh ≤ s 1) _ _ = iteP (∃ o, 0 ≤ o ∧ o < s 2 ∧ ovN s o w hh x y) (bdR 3 a7) (okR (rafU s w hh dr x y) (updN N (s 2) l) td p7) by
        obtain ⟨v1, v2, v3, v4⟩ := hN8 z
        rw [ite_t (by omega), (ok7 z).2.1]]
      exact co
  · rw [show (2 : Int32) = iI 2 from rfl]
    refine c_fail R8 (by omega) fun g9 f9 fa9 t9 R9 FR => ?_
    have nz : f9 ≠ 0 := by rcases FR with q | q <;> omega
    refine c_raft141 (l := l) (x := x) (y := y) R9 (C8.tf t9) B h8 (W.tf hfr t9) (fun z => absurd z nz) fun h' co => K h' (CO.from (FF.trans t9.b2) ?_)
    rw [ite_f nz] at co
    by_cases z : f7 = 0
    · obtain ⟨v1, v2, v3, v4⟩ := hN8 z
      rcases FR with q | ⟨q1, q2, q3⟩
      · omega
      · rw [ite_t z, ite_f (by omega), ← (ok7 z).2.1, ← q2, ← q3]; exact co
    · rw [ite_f z]
      rcases FR with ⟨q1, q2, q3⟩ | q
      · rw [q2, q3] at co; exact co
      · omega
theorem c_raft (R : RD T n m h 2 2 3 0 fa p a) (C : CL h fr s N td) (B : BA s td) (K : ∀ h', CO T n m fr h h' (sRaft T n m s N td a p) → postV h') : wp_X2_readNewRaft h 2 postV := by
  unfold sRaft at K
  have O := R.o
  have H := C.H
  have p12 := C.ft
  have c5 := C.L.c5
  have hfr := C.f5
  obtain ⟨bb0, bb1, bb2, bb3, bb4, bb5⟩ := B.bds
  unfold wp_X2_readNewRaft
  simp (disch := omega) only [O, fd0, fd1, fd2, fd3, fd4, fd5, fd6, fd7, fd8, fd9, fd10, fd11, fd12, fd13, fd14, fd15, fd16, fd17, fd18, fd19, fd20, fd21, fd22, fd23, fd24, fd25, fd26, fd27, fd28, fd29, fd30, fd31, fd32, fd33, fd34, fd35, fd36, fd37, fd38, fd39, fd40, fd41, fd42, fd43, fd44, fd45, fd46, fd47, fd48, fd49, fd50, fd51, fd52, p12, LB.o0 H, c5, -Int.reduceToNat, -Int32.reduceToNatClampNeg, il0, il1, il2, il3, il4, il5, il6, il7, il8, il9, il10, il11, il12, il13, il14, il15, il16, il17, il18, il19, il20, il21, il22, il23, il24, il25, il26, il27, il28, il29, il30, il31, il32, il35, il36, il38, il40, il42, il43, il44, il45, il46, il47, il48, il49, il50, il51, il52, il57, il59, il60, il63, il64, il75, il80, il95, il96, il97, il98, il99, il100, il120, il122, il123, il127, il128, il135, il167, il175, il225, il249, il250, il255, il256, il360, il370, il384, il600, il700, il740, il900, il940, il1024, il1600, il4800, il64000, il125000, il262143, il1000000000, iI_toInt, iI_add, iI_sub, iI_mul, iI_neg, iI_lt, iI_le, iI_eq, iI_n, iI_in, iI_div, iI_mod, iI_shm, iI_and1, iI_and7, iI_and63, iI_shr3, iI_shr6, rd_I, ob, Option.some.injEq, exists_eq_left', exists_eq_left, true_and, and_true, fqI, fqJ, eq_self, true_or, or_true, bP_0, bP_0i, npP, bP_1i, bP_b, not_true_eq_false, not_false_eq_true, false_implies, true_implies, implies_true, Classical.not_not, and_self, cP, cP', ite_n]
  by_cases z : s 2 < 8
  · rw [ite_t z] at K
    rw [ite_t z]
    have v8 : vp_in (iI (s 2)) 8 := iI_in (by omega) (by omega) (by omega)
    refine ⟨fr + 4, H.p6, c_readName R fun g1 f1 fa1 p1 a1 v t1 R1 NR vb => ?_⟩
    rw [show naS T n m p _ = iteP ((0 : Int) = 0) (naS T n m p _) (bdR 0 fa) by rw [ite_t rfl], NR.st] at K
    have C1 := C.tf t1
    have H1 := C1.H
    simp (disch := omega) only [LB.o4 H1, LB.l4 H1, -Int.reduceToNat, -Int32.reduceToNatClampNeg, il0, il1, il2, il3, il4, il5, il6, il7, il8, il9, il10, il11, il12, il13, il14, il15, il16, il17, il18, il19, il20, il21, il22, il23, il24, il25, il26, il27, il28, il29, il30, il31, il32, il35, il36, il38, il40, il42, il43, il44, il45, il46, il47, il48, il49, il50, il51, il52, il57, il59, il60, il63, il64, il75, il80, il95, il96, il97, il98, il99, il100, il120, il122, il123, il127, il128, il135, il167, il175, il225, il249, il250, il255, il256, il360, il370, il384, il600, il700, il740, il900, il940, il1024, il1600, il4800, il64000, il125000, il262143, il1000000000, iI_toInt, iI_add, iI_sub, iI_mul, iI_neg, iI_lt, iI_le, iI_eq, iI_n, iI_in, iI_div, iI_mod, iI_shm, iI_and1, iI_and7, iI_and63, iI_shr3, iI_shr6, rd_I, ob, Option.some.injEq, exists_eq_left', exists_eq_left, true_and, and_true, fqI, fqJ, eq_self, true_or, or_true, bP_0, bP_0i, npP, bP_1i, bP_b, not_true_eq_false, not_false_eq_true, false_implies, true_implies, implies_true, Classical.not_not, and_self]
    intro g2 e2
    obtain ⟨F2, r2⟩ := wI (i := s 2) (by omega) (by omega) (by omega) e2
    have R2 := R1.bI (fr := fr) (j := fr + 4) (by omega) hfr F2
    have C2 := C1.put (by omega) F2 r2
    have O2 := R2.o
    have H2 := C2.H
    have q12 := C2.ft
    have ev : rd g2 (fr + 4) (s 2) = v := by rw [r2, updT_s]
    have FF : Fr (2 :: blk fr) (blk fr) [] h g2 := t1.b2.trans (F2.bI (by omega))
    simp (disch := omega) only [O2, q12, LB.o0 H2, LB.p6 H2, LB.o4 H2, LB.l4 H2, fd0, fd1, fd2, fd3, fd4, fd5, fd6, fd7, fd8, fd9, fd10, fd11, fd12, fd13, fd14, fd15, fd16, fd17, fd18, fd19, fd20, fd21, fd22, fd23, fd24, fd25, fd26, fd27, fd28, fd29, fd30, fd31, fd32, fd33, fd34, fd35, fd36, fd37, fd38, fd39, fd40, fd41, fd42, fd43, fd44, fd45, fd46, fd47, fd48, fd49, fd50, fd51, fd52, ev, -Int.reduceToNat, -Int32.reduceToNatClampNeg, il0, il1, il2, il3, il4, il5, il6, il7, il8, il9, il10, il11, il12, il13, il14, il15, il16, il17, il18, il19, il20, il21, il22, il23, il24, il25, il26, il27, il28, il29, il30, il31, il32, il35, il36, il38, il40, il42, il43, il44, il45, il46, il47, il48, il49, il50, il51, il52, il57, il59, il60, il63, il64, il75, il80, il95, il96, il97, il98, il99, il100, il120, il122, il123, il127, il128, il135, il167, il175, il225, il249, il250, il255, il256, il360, il370, il384, il600, il700, il740, il900, il940, il1024, il1600, il4800, il64000, il125000, il262143, il1000000000, iI_toInt, iI_add, iI_sub, iI_mul, iI_neg, iI_lt, iI_le, iI_eq, iI_n, iI_in, iI_div, iI_mod, iI_shm, iI_and1, iI_and7, iI_and63, iI_shr3, iI_shr6, rd_I, ob, Option.some.injEq, exists_eq_left', exists_eq_left, true_and, and_true, fqI, fqJ, eq_self, true_or, or_true, bP_0, bP_0i, npP, bP_1i, bP_b, not_true_eq_false, not_false_eq_true, false_implies, true_implies, implies_true, Classical.not_not, and_self]
    refine c_raftNamed H2 C2.L.c5 bb2 vb ?_
    have nok := NR.ok
    have fe : f1 = 0 → fstI (fun i => rd g2 (fr + 4) i = v) (s 2).toNat 0 = fnd N (s 2) (tkW T n m p) := fun u => by
      rw [(nok u).2.2.2.2.2.2]
      exact fnd_eq C2.M bb2.1 (tkW_ok R.hp (nok u).2.2.2.2.1).1
    have fb := fnd_bd (N := N) (c := s 2) (l := tkW T n m p) bb2.1
    have wb : -1 ≤ fstI (fun i => rd g2 (fr + 4) i = v) (s 2).toNat 0 ∧ fstI (fun i => rd g2 (fr + 4) i = v) (s 2).toNat 0 < 8 := by
      rcases fstI_spec (P := fun i => rd g2 (fr + 4) i = v) (s 2).toNat 0 (by omega) with u | u <;> omega
    generalize fstI (fun i => rd g2 (fr + 4) i = v) (s 2).toNat 0 = k at fe wb
    simp (disch := omega) only [O2, -Int.reduceToNat, -Int32.reduceToNatClampNeg, il0, il1, il2, il3, il4, il5, il6, il7, il8, il9, il10, il11, il12, il13, il14, il15, il16, il17, il18, il19, il20, il21, il22, il23, il24, il25, il26, il27, il28, il29, il30, il31, il32, il35, il36, il38, il40, il42, il43, il44, il45, il46, il47, il48, il49, il50, il51, il52, il57, il59, il60, il63, il64, il75, il80, il95, il96, il97, il98, il99, il100, il120, il122, il123, il127, il128, il135, il167, il175, il225, il249, il250, il255, il256, il360, il370, il384, il600, il700, il740, il900, il940, il1024, il1600, il4800, il64000, il125000, il262143, il1000000000, iI_toInt, iI_add, iI_sub, iI_mul, iI_neg, iI_lt, iI_le, iI_eq, iI_n, iI_in, iI_div, iI_mod, iI_shm, iI_and1, iI_and7, iI_and63, iI_shr3, iI_shr6, rd_I, ob, Option.some.injEq, exists_eq_left', exists_eq_left, true_and, and_true, fqI, fqJ, eq_self, true_or, or_true, bP_0, bP_0i, npP, bP_1i, bP_b, not_true_eq_false, not_false_eq_true, false_implies, true_implies, implies_true, Classical.not_not, and_self, cP, cP', ite_n]
    have hN : f1 = 0 → NwN g2 fr s (tkW T n m p) := fun u => ⟨by rw [ev]; exact (nok u).2.2.2.2.2.2, tkW_ok R.hp (nok u).2.2.2.2.1⟩
    by_cases ck : k < 0
    · rw [ite_t ck]
      refine c_raft57 (l := tkW T n m p) R2 C2 B z hN fun h' co => K h' (CO.from FF ?_)
      rw [it_a fun u => ite_t (by have := fe u; omega)]
      exact co
    · rw [ite_f ck]
      refine c_fail R2 (by omega) fun g3 f3 fa3 t3 R3 FR => ?_
      have nz : f3 ≠ 0 := by rcases FR with q | q <;> omega
      refine c_raft57 (l := tkW T n m p) R3 (C2.tf t3) B z (fun u => absurd u nz) fun h' co => K h' (CO.from (FF.trans t3.b2) ?_)
      rw [ite_f nz] at co
      by_cases u : f1 = 0
      · rcases FR with q | ⟨q1, q2, q3⟩
        · omega
        · rw [ite_t u, ite_f (by have := fe u; omega), ← (nok u).2.2.2.1, ← q2, ← q3]; exact co
      · rw [ite_f u]
        rcases FR with ⟨q1, q2, q3⟩ | q
        · rw [q2, q3] at co; exact co
        · omega
  · rw [ite_f z] at K
    rw [ite_f z]
    exact c_fail0 R (by omega) fun g t Rg => K g (CO.bd t.b2 (by omega) Rg)
end RFT
