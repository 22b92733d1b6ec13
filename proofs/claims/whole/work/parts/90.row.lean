/-! LINES of the class: row -/
section ROW
variable {h h1 h2 h' h0 g : AH} {fr tx ci tb la : Nat} {postV : AH → Prop} {post : AH → Int32 → Prop} {postJ : AH → Int64 → Prop} {a b c d r x y n m p f fa q e k i lo hi v w td ra rb re cell A : Int} {T s : Int → Int} {l : List Int} {N : Int → List Int}
theorem zb_one (h1 : 0 ≤ cell) (h2 : cell < 64) (h3 : 0 ≤ c) (h4 : c < 64) : zb ((1 : Int64) <<< ((iI cell).toInt64 &&& 63)) c ↔ c = cell := by
  rw [zb_shl 1 h1 h2 h3 h4]
  constructor
  · rintro ⟨u1, u2⟩
    have := (zb_1 (show 0 ≤ c - cell by omega) (by omega)).mp u2
    omega
  · intro u
    exact ⟨by omega, (zb_1 (by omega) (by omega)).mpr (by omega)⟩
theorem c_row69 {K28 : AH → Nat → Int32 → Int32 → Prop} (hx : 0 ≤ x ∧ x < 8) (hc : 0 ≤ cell ∧ cell < 64) : ∀ (dd : Nat) (g : AH) (gi : Int), LB g fr → gi + dd = 10 → 0 ≤ gi → (∀ g', Fr [] [fr + 2] [] g g' → (∀ gg : Int, 0 ≤ gg → gg < 10 → ∀ c, 0 ≤ c → c < 64 → (zb (aJ g' (fr + 2) gg.toNat) c ↔ zb (aJ g (fr + 2) gg.toNat) c ∨ (gi ≤ gg ∧ c = cell))) → K28 g' fr (iI v) (iI (x - 1))) → wl_X1_addRow_69 K28 postV (dd + 1) g fr (iI v) (iI x) (iI cell) (iI gi) := by
  intro dd
  induction dd with
  | zero =>
    intro g gi H hg g0 K
    have e : gi = 10 := by omega
    subst e
    show wb_X1_addRow_69 K28 (wl_X1_addRow_69 K28 postV 0) g fr (iI v) (iI x) (iI cell) (iI 10) postV
    have K0 := K g ((Fr.refl g).mono (by simp) (by simp) (by simp)) (fun gg g1 g2 c _ _ => ⟨Or.inl, fun u => u.elim id fun w => by omega⟩)
    unfold wb_X1_addRow_69
    refine ⟨fun _ iv e => ?_, fun u => absurd (by decide) u⟩
    rw [e, show (-1 : Int32) = iI (-1) from rfl, iI_add, show x + -1 = x - 1 by omega]
    exact K0
  | succ dd ih =>
    intro g gi H hg g0 K
    show wb_X1_addRow_69 K28 (wl_X1_addRow_69 K28 postV (dd + 1)) g fr (iI v) (iI x) (iI cell) (iI gi) postV
    unfold wb_X1_addRow_69
    simp (disch := omega) only [LB.o0 H, LB.p3 H, LB.o2 H, LB.l2 H, -Int.reduceToNat, -Int32.reduceToNatClampNeg, il0, il1, il2, il3, il4, il5, il6, il7, il8, il9, il10, il11, il12, il13, il14, il15, il16, il17, il18, il19, il20, il21, il22, il23, il24, il25, il26, il27, il28, il29, il30, il31, il32, il35, il36, il38, il40, il42, il43, il44, il45, il46, il47, il48, il49, il50, il51, il52, il57, il59, il60, il63, il64, il75, il80, il95, il96, il97, il98, il99, il100, il120, il122, il123, il127, il128, il135, il167, il175, il225, il249, il250, il255, il256, il360, il370, il384, il600, il700, il740, il900, il940, il1024, il1600, il4800, il64000, il125000, il262143, il1000000000, iI_toInt, iI_add, iI_sub, iI_mul, iI_neg, iI_lt, iI_le, iI_eq, iI_n, iI_in, iI_div, iI_mod, iI_shm, iI_and1, iI_and7, iI_and63, iI_shr3, iI_shr6, rd_I, ob, Option.some.injEq, exists_eq_left', exists_eq_left, true_and, and_true, fqI, fqJ, eq_self, true_or, or_true, bP_0, bP_0i, npP, bP_1i, bP_b, not_true_eq_false, not_false_eq_true, false_implies, true_implies, implies_true, Classical.not_not, and_self, cP, cP', ite_n, ite_f]
    intro g1 e1
    have f1 : Fr [] [fr + 2] [] g g1 := e1 ▸ fr_hJ
    have H1 : LB g1 fr := LB.same f1.1 f1.2.2.1 f1.2.2.2.1 f1.aPe H
    refine ih g1 (gi + 1) H1 (by omega) (by omega) fun g' f' hz => K g' (f1.trans f') fun gg gg0 gg1 c c0 c1 => ?_
    rw [hz gg gg0 gg1 c c0 c1, e1, aJ_hJ]
    by_cases cg : gg = gi
    · rw [if_pos (by omega), zb_or, zb_one hc.1 hc.2 c0 c1, cg]
      constructor
      · rintro ((u | u) | u)
        · exact Or.inl u
        · exact Or.inr ⟨by omega, u⟩
        · exact Or.inr ⟨by omega, u.2⟩
      · rintro (u | u)
        · exact Or.inl (Or.inl u)
        · exact Or.inl (Or.inr u.2)
    · rw [if_neg (by omega)]
      constructor
      · rintro (u | u)
        · exact Or.inl u
        · exact Or.inr ⟨by omega, u.2⟩
      · rintro (u | u)
        · exact Or.inl u
        · exact Or.inr ⟨by omega, u.2⟩
/-- while a row's signs are laid: those after x are -/
def RwS (T : Int → Int) (h g : AH) (fr : Nat) (A k Rw x : Int) : Prop := (Fr [fr, fr + 1] [fr + 2] [] h g) ∧ (rd g fr = updT (rd h fr) 0 k) ∧ (∀ j, 0 ≤ j → rd g (fr + 1) j = if 8 * Rw + x < j ∧ j < 8 * Rw + k then T (A + (j - 8 * Rw)) - 48 else rd h (fr + 1) j) ∧ (∀ gg : Int, 0 ≤ gg → gg < 10 → ∀ c, 0 ≤ c → c < 64 → (zb (aJ g (fr + 2) gg.toNat) c ↔ zb (aJ h (fr + 2) gg.toNat) c ∨ ((8 * Rw + x < c ∧ c < 8 * Rw + k) ∧ T (A + (c - 8 * Rw)) - 48 ≤ gg)))
theorem RwS.F {T : Int → Int} {h g : AH} {fr : Nat} {A k Rw x : Int} (R : RwS T h g fr A k Rw x) : Fr [fr, fr + 1] [fr + 2] [] h g := R.1
theorem RwS.r0 {T : Int → Int} {h g : AH} {fr : Nat} {A k Rw x : Int} (R : RwS T h g fr A k Rw x) : rd g fr = updT (rd h fr) 0 k := R.2.1
theorem RwS.gr {T : Int → Int} {h g : AH} {fr : Nat} {A k Rw x : Int} (R : RwS T h g fr A k Rw x) : ∀ j, 0 ≤ j → rd g (fr + 1) j = if 8 * Rw + x < j ∧ j < 8 * Rw + k then T (A + (j - 8 * Rw)) - 48 else rd h (fr + 1) j := R.2.2.1
theorem RwS.up {T : Int → Int} {h g : AH} {fr : Nat} {A k Rw x : Int} (R : RwS T h g fr A k Rw x) : ∀ gg : Int, 0 ≤ gg → gg < 10 → ∀ c, 0 ≤ c → c < 64 → (zb (aJ g (fr + 2) gg.toNat) c ↔ zb (aJ h (fr + 2) gg.toNat) c ∨ ((8 * Rw + x < c ∧ c < 8 * Rw + k) ∧ T (A + (c - 8 * Rw)) - 48 ≤ gg)) := R.2.2.2
theorem c_addRow {R : Int} (H : LB h fr) (e1 : rd h fr 1 = R) (hR : 0 ≤ R ∧ R < 8) (hk : 1 ≤ k ∧ k ≤ 8) (hd : allI dgC T A (A + k)) (hv : v = rnV T A (A + k)) (K : ∀ g g', RwS T h g fr A k R (-1) → Fr [fr] [] [] g g' → rd g' fr = updT (rd g fr) 1 (R + 1) → postV g') : wp_X1_addRow h fr (iI v) (iI k) postV := by
  unfold wp_X1_addRow
  have vb : ∀ j : Int, 0 ≤ j → j ≤ k → 0 ≤ rnV T A (A + j) ∧ rnV T A (A + j) < 100000000 := fun j j0 j1 => by
    have := rnV_bd (T := T) (q := A) j.toNat (by rw [show A + (j.toNat : Int) = A + j by omega]; exact fun i i1 i2 => hd i i1 (by omega))
    rw [show A + (j.toNat : Int) = A + j by omega] at this
    have b := p10_8 (k := j.toNat) (by omega)
    omega
  have vk := vb k (by omega) (Int.le_refl _)
  simp (disch := omega) only [LB.o0 H, fd0, fd1, fd2, fd3, fd4, fd5, fd6, fd7, fd8, fd9, fd10, fd11, fd12, fd13, fd14, fd15, fd16, fd17, fd18, fd19, fd20, fd21, fd22, fd23, fd24, fd25, fd26, fd27, fd28, fd29, fd30, fd31, fd32, fd33, fd34, fd35, fd36, fd37, fd38, fd39, fd40, fd41, fd42, fd43, fd44, fd45, fd46, fd47, fd48, fd49, fd50, fd51, fd52, e1, -Int.reduceToNat, -Int32.reduceToNatClampNeg, il0, il1, il2, il3, il4, il5, il6, il7, il8, il9, il10, il11, il12, il13, il14, il15, il16, il17, il18, il19, il20, il21, il22, il23, il24, il25, il26, il27, il28, il29, il30, il31, il32, il35, il36, il38, il40, il42, il43, il44, il45, il46, il47, il48, il49, il50, il51, il52, il57, il59, il60, il63, il64, il75, il80, il95, il96, il97, il98, il99, il100, il120, il122, il123, il127, il128, il135, il167, il175, il225, il249, il250, il255, il256, il360, il370, il384, il600, il700, il740, il900, il940, il1024, il1600, il4800, il64000, il125000, il262143, il1000000000, iI_toInt, iI_add, iI_sub, iI_mul, iI_neg, iI_lt, iI_le, iI_eq, iI_n, iI_in, iI_div, iI_mod, iI_shm, iI_and1, iI_and7, iI_and63, iI_shr3, iI_shr6, rd_I, ob, Option.some.injEq, exists_eq_left', exists_eq_left, true_and, and_true, fqI, fqJ, eq_self, true_or, or_true, bP_0, bP_0i, npP, bP_1i, bP_b, not_true_eq_false, not_false_eq_true, false_implies, true_implies, implies_true, Classical.not_not, and_self, cP, cP', ite_n, ite_f, ite_t]
  intro ga ea
  obtain ⟨fa', r0⟩ := wI (i := 0) (by omega) (by omega) (by omega) ea
  have loop : ∀ (dd : Nat) (g : AH) (x : Int), x + 1 = dd → x < k → RwS T h g fr A k R x → wl_X1_addRow_28 postV (dd + 1) g fr (iI (rnV T A (A + x + 1))) (iI x) := by
    intro dd
    induction dd with
    | zero =>
      intro g x hx xk S
      have ex : x = -1 := by omega
      subst ex
      have Hg : LB g fr := LB.same S.F.1 S.F.2.2.1 S.F.2.2.2.1 S.F.aPe H
      have g1 : rd g fr 1 = R := by rw [S.r0, updT_n (by omega), e1]
      show wb_X1_addRow_28 (wl_X1_addRow_28 postV 0) g fr (iI (rnV T A (A + -1 + 1))) (iI (-1)) postV
      unfold wb_X1_addRow_28
      refine ⟨fun _ => ⟨Hg.o0, Hg.o0, fun g' e' => ?_⟩, fun u => absurd (by decide) u⟩
      rw [show aI g fr 1 = iI R from (rd_I g fr (show (0 : Int) ≤ 1 by omega)).trans (by rw [g1]), show (1 : Int32) = iI 1 from rfl, iI_add] at e'
      obtain ⟨f', r'⟩ := wI (i := 1) (by omega) (by omega) (by omega) e'
      exact K g g' S f' r'
    | succ dd ih =>
      intro g x hx xk S
      have Hg : LB g fr := LB.same S.F.1 S.F.2.2.1 S.F.2.2.2.1 S.F.aPe H
      have g1 : rd g fr 1 = R := by rw [S.r0, updT_n (by omega), e1]
      show wb_X1_addRow_28 (wl_X1_addRow_28 postV (dd + 1)) g fr (iI (rnV T A (A + x + 1))) (iI x) postV
      have dg : dgC (T (A + x)) := hd _ (by omega) (by omega)
      unfold dgC at dg
      have vx := vb (x + 1) (by omega) (by omega)
      rw [show A + (x + 1) = A + x + 1 by omega] at vx
      have vs := rnV_s (T := T) (q := A) (e := A + x) (by omega)
      have v10 : rnV T A (A + x + 1) / 10 = rnV T A (A + x) := by omega
      have m10 : rnV T A (A + x + 1) - rnV T A (A + x + 1) / 10 * 10 = T (A + x) - 48 := by omega
      generalize hV : rnV T A (A + x + 1) = V at vx v10 m10
      clear vs
      unfold wb_X1_addRow_28
      simp (disch := omega) only [LB.o0 Hg, LB.p2 Hg, LB.o1 Hg, LB.l1 Hg, fd0, fd1, fd2, fd3, fd4, fd5, fd6, fd7, fd8, fd9, fd10, fd11, fd12, fd13, fd14, fd15, fd16, fd17, fd18, fd19, fd20, fd21, fd22, fd23, fd24, fd25, fd26, fd27, fd28, fd29, fd30, fd31, fd32, fd33, fd34, fd35, fd36, fd37, fd38, fd39, fd40, fd41, fd42, fd43, fd44, fd45, fd46, fd47, fd48, fd49, fd50, fd51, fd52, g1, -Int.reduceToNat, -Int32.reduceToNatClampNeg, il0, il1, il2, il3, il4, il5, il6, il7, il8, il9, il10, il11, il12, il13, il14, il15, il16, il17, il18, il19, il20, il21, il22, il23, il24, il25, il26, il27, il28, il29, il30, il31, il32, il35, il36, il38, il40, il42, il43, il44, il45, il46, il47, il48, il49, il50, il51, il52, il57, il59, il60, il63, il64, il75, il80, il95, il96, il97, il98, il99, il100, il120, il122, il123, il127, il128, il135, il167, il175, il225, il249, il250, il255, il256, il360, il370, il384, il600, il700, il740, il900, il940, il1024, il1600, il4800, il64000, il125000, il262143, il1000000000, iI_toInt, iI_add, iI_sub, iI_mul, iI_neg, iI_lt, iI_le, iI_eq, iI_n, iI_in, iI_div, iI_mod, iI_shm, iI_and1, iI_and7, iI_and63, iI_shr3, iI_shr6, rd_I, ob, Option.some.injEq, exists_eq_left', exists_eq_left, true_and, and_true, fqI, fqJ, eq_self, true_or, or_true, bP_0, bP_0i, npP, bP_1i, bP_b, not_true_eq_false, not_false_eq_true, false_implies, true_implies, implies_true, Classical.not_not, and_self, cP, cP', ite_n, ite_f]
      rw [v10, show V - rnV T A (A + x) * 10 = T (A + x) - 48 by omega]
      intro g2 e2
      obtain ⟨f2, r2⟩ := wI (i := 8 * R + x) (by omega) (by omega) (by omega) e2
      have H2 : LB g2 fr := LB.same f2.1 f2.2.2.1 f2.2.2.2.1 f2.aPe Hg
      refine ⟨_, c_row69 (by omega) (by omega) (10 - (T (A + x) - 48)).toNat g2 (T (A + x) - 48) H2 (by omega) (by omega) fun g3 f3 z3 => ?_⟩
      have key := ih g3 (x - 1) (by omega) (by omega) ⟨(S.F.trans ((f2.mono (by simp) (by simp) (by simp)).trans (f3.mono (by simp) (by simp) (by simp)))), ?_, ?_, ?_⟩
      · rw [show A + (x - 1) + 1 = A + x by omega] at key
        exact key
      · rw [f3.row (by simp), f2.row (by simp), S.r0]
      · intro j j0
        rw [f3.row (by simp), r2]
        by_cases cj : j = 8 * R + x
        · rw [cj, updT_s, if_pos (by omega), show A + (8 * R + x - 8 * R) = A + x by omega]
        · rw [updT_n cj, S.gr j j0]
          by_cases cz : 8 * R + x < j ∧ j < 8 * R + k
          · rw [if_pos cz, if_pos (by omega)]
          · rw [if_neg cz, if_neg (by omega)]
      · intro gg gg0 gg1 c c0 c1
        rw [z3 gg gg0 gg1 c c0 c1, f2.2.2.2.2.2.1 _ (by simp), S.up gg gg0 gg1 c c0 c1]
        constructor
        · rintro ((u | u) | ⟨u1, u2⟩)
          · exact Or.inl u
          · exact Or.inr ⟨by omega, u.2⟩
          · refine Or.inr ⟨by omega, ?_⟩
            rw [u2, show A + (8 * R + x - 8 * R) = A + x by omega]
            exact u1
        · rintro (u | ⟨u1, u2⟩)
          · exact Or.inl (Or.inl u)
          · by_cases cc : c = 8 * R + x
            · refine Or.inr ⟨?_, cc⟩
              rw [cc, show A + (8 * R + x - 8 * R) = A + x by omega] at u2
              exact u2
            · exact Or.inl (Or.inr ⟨by omega, u2⟩)
  have ini := loop k.toNat ga (k - 1) (by omega) (by omega) ⟨fa'.mono (by simp) (by simp) (by simp), r0, fun j j0 => by rw [fa'.row (by simp), if_neg (by omega)], fun gg gg0 gg1 c c0 c1 => by
    rw [fa'.2.2.2.2.2.1 _ (by simp)]
    exact ⟨Or.inl, fun u => u.elim id fun w => by omega⟩⟩
  rw [show A + (k - 1) + 1 = A + k by omega, ← hv] at ini
  exact ⟨_, ini⟩
theorem c_row66 (R : RD T n m h 2 2 3 0 fa p a) (C : CL h fr s N td) (B : BA s td) (h8 : s 1 < 8) (hk : 1 ≤ k ∧ k ≤ 8) (hd : allI dgC T A (A + k)) (e7 : rd h 2 7 = rnV T A (A + k)) (e8 : rd h 2 8 = k) (h0' : 0 < s 1 → k = s 0) (K : ∀ h', CO T n m fr h h' (okR (rowU T s A k) N td p) → postV h') : wb_X2_readRow_66 h 2 postV := by
  have O := R.o
  have H := C.H
  have p12 := C.ft
  have sf := R.sf
  have b7 := rd_bd h 2 7
  have c1 := C.L.c1
  have hfr := C.f5
  obtain ⟨bb0, bb1, bb2, bb3, bb4, bb5⟩ := B.bds
  unfold wb_X2_readRow_66
  simp (disch := omega) only [O, fd0, fd1, fd2, fd3, fd4, fd5, fd6, fd7, fd8, fd9, fd10, fd11, fd12, fd13, fd14, fd15, fd16, fd17, fd18, fd19, fd20, fd21, fd22, fd23, fd24, fd25, fd26, fd27, fd28, fd29, fd30, fd31, fd32, fd33, fd34, fd35, fd36, fd37, fd38, fd39, fd40, fd41, fd42, fd43, fd44, fd45, fd46, fd47, fd48, fd49, fd50, fd51, fd52, sf, e7, e8, p12, LB.o0 H, -Int.reduceToNat, -Int32.reduceToNatClampNeg, il0, il1, il2, il3, il4, il5, il6, il7, il8, il9, il10, il11, il12, il13, il14, il15, il16, il17, il18, il19, il20, il21, il22, il23, il24, il25, il26, il27, il28, il29, il30, il31, il32, il35, il36, il38, il40, il42, il43, il44, il45, il46, il47, il48, il49, il50, il51, il52, il57, il59, il60, il63, il64, il75, il80, il95, il96, il97, il98, il99, il100, il120, il122, il123, il127, il128, il135, il167, il175, il225, il249, il250, il255, il256, il360, il370, il384, il600, il700, il740, il900, il940, il1024, il1600, il4800, il64000, il125000, il262143, il1000000000, iI_toInt, iI_add, iI_sub, iI_mul, iI_neg, iI_lt, iI_le, iI_eq, iI_n, iI_in, iI_div, iI_mod, iI_shm, iI_and1, iI_and7, iI_and63, iI_shr3, iI_shr6, rd_I, ob, Option.some.injEq, exists_eq_left', exists_eq_left, true_and, and_true, fqI, fqJ, eq_self, true_or, or_true, bP_0, bP_0i, npP, bP_1i, bP_b, not_true_eq_false, not_false_eq_true, false_implies, true_implies, implies_true, Classical.not_not, and_self, cP, cP', ite_n, ite_t]
  refine c_addRow (R := s 1) H c1 (by omega) hk hd rfl fun g g' S F' r' => K g' ?_
  have F := S.F
  have nf : Fr (2 :: blk fr) (blk fr) [] h g' := by
    refine (F.mono (fun a ha => ?_) (fun a ha => ?_) (by simp)).trans (F'.bI (by omega))
    · simp only [List.mem_cons, List.not_mem_nil, or_false] at ha
      exact List.mem_cons_of_mem _ (mem_blk.mpr (by omega))
    · simp only [List.mem_cons, List.not_mem_nil, or_false] at ha
      exact mem_blk.mpr (by omega)
  have Hg : LB g' fr := LB.same F'.1 F'.2.2.1 F'.2.2.2.1 F'.aPe (LB.same F.1 F.2.2.1 F.2.2.2.1 F.aPe H)
  have rows : ∀ j, j ≠ fr → j ≠ fr + 1 → rd g' j = rd h j := fun j j1 j2 => by rw [F'.row (by simp <;> omega), F.row (by simp <;> omega)]
  have R' : RD T n m g' 2 2 3 0 fa p a := by
    obtain ⟨b1, b2, b3, b4⟩ := R.B
    obtain ⟨x1, x2, x3, x4⟩ := R.X
    have e2 := rows 2 (by omega) (by omega)
    have aPe : aP g' = aP h := by rw [F'.aPe, F.aPe]
    have aLe : aL g' = aL h := by rw [F'.2.2.2.1, F.2.2.2.1]
    exact ⟨F'.gr.ob (F.gr.ob R.o), by rw [aPe]; exact R.pp, ⟨F'.gr.ob (F.gr.ob x1), by rw [aLe]; exact x2, by rw [rows 1 (by omega) (by omega)]; exact x3, x4⟩, ⟨by rw [aPe]; exact b1, F'.gr.ob (F.gr.ob b2), by rw [aLe]; exact b3, fun i i0 i1 => by rw [rows 3 (by omega) (by omega)]; exact b4 i i0 i1⟩, by rw [e2]; exact R.s2, by rw [e2]; exact R.s3, by rw [e2]; exact R.sf, by rw [e2]; exact R.sa, by rw [e2]; exact R.sp, by rw [e2]; exact R.ss, R.hp, R.ha, R.hn, R.hm, R.ht⟩
  refine CO.ok nf R' ?_
  obtain ⟨_, L, M, st, ft, tt, fb⟩ := C
  have row : ∀ j, (2 ≤ j ∧ j ≤ 20) → rd g' (fr + j) = rd h (fr + j) := fun j hj => rows _ (by omega) (by omega)
  have E0 : ∀ j : Int, j ≠ 0 ∧ j ≠ 1 → rd g' fr j = rd h fr j := fun j hj => by rw [r', updT_n hj.2, S.r0, updT_n hj.1]
  have E10 : ∀ j, (j : Int) = j → rd g' (fr + 10) j = rd h (fr + 10) j := fun j _ => by rw [row 10 (by omega)]
  have E16 : ∀ j, (j : Int) = j → rd g' (fr + 16) j = rd h (fr + 16) j := fun j _ => by rw [row 16 (by omega)]
  have jow0 : ∀ j : Nat, j ≤ 20 → aJ g' fr j = aJ h fr j := fun j _ => by rw [F'.2.2.2.2.2.1 _ (by simp), F.2.2.2.2.2.1 _ (by simp)]
  have es : ∀ i, (i ≠ 0 ∧ i ≠ 1 ∧ (i < 11 + 8 * s 1 ∨ 11 + 8 * s 1 + k ≤ i)) → rowU T s A k i = s i := fun i hi => by unfold rowU; rw [if_neg (by omega), if_neg (by omega), if_neg (by omega)]
  have s0' : rowU T s A k 0 = k := by unfold rowU; rw [if_pos rfl]
  have s1' : rowU T s A k 1 = s 1 + 1 := by unfold rowU; rw [if_neg (by omega), if_pos rfl]
  have sN : ∀ x, 0 ≤ x → x < k → rowU T s A k (11 + 8 * s 1 + x) = T (A + x) - 48 := fun x x0 x1 => by unfold rowU; rw [if_neg (by omega), if_neg (by omega), if_pos (by omega), show 11 + 8 * s 1 + x - 11 - 8 * s 1 = x by omega]
  exact ⟨Hg, ⟨(by rw [r', updT_n (by omega), S.r0, updT_s, s0']), (by rw [r', updT_s, s1']), (by rw [E0 5 (by omega), es 2 (by omega)]; exact L.c5), (by rw [E0 11 (by omega), es 3 (by omega)]; exact L.c11), (by rw [E10 0 (by omega), es 4 (by omega)]; exact L.q0), (by rw [E16 0 (by omega), es 5 (by omega)]; exact L.w0), (fun x y x0 x1 y0 y1 => by rw [s0'] at x1; rw [s1'] at y1; rw [F'.row (by simp), S.gr _ (by omega)]; by_cases cy : y = s 1; { rw [cy, if_pos (by omega), sN x x0 x1, show 8 * s 1 + x - 8 * s 1 = x by omega] }; { rw [if_neg (by omega), es _ (by omega)]; exact L.gr x y x0 (by omega) y0 (by omega) }), (fun g2 x y g0 g1 x0 x1 y0 y1 => by rw [s0', s1', F'.2.2.2.2.2.1 _ (by simp), S.up g2 g0 g1 _ (by omega) (by omega), L.up g2 x y g0 g1 x0 x1 y0 y1]; by_cases cy : y = s 1; { rw [cy]; by_cases cx : x < k; { rw [sN x x0 cx, show 8 * s 1 + x - 8 * s 1 = x by omega]; omega }; { omega } }; { rw [es (11 + 8 * y + x) (by omega)]; omega }), (fun i i0 i1 => by rw [row 3 (by omega), es _ (by omega)]; exact L.td i i0 i1), (fun r r0 r1 => by rw [es 2 (by omega)] at r1; rw [row 5 (by omega), es _ (by omega)]; exact L.wi r r0 r1), (fun r r0 r1 => by rw [es 2 (by omega)] at r1; rw [row 6 (by omega), es _ (by omega)]; exact L.hi r r0 r1), (fun r r0 r1 => by rw [es 2 (by omega)] at r1; rw [row 7 (by omega), es _ (by omega)]; exact L.dr r r0 r1), (fun r r0 r1 => by rw [es 3 (by omega)] at r1; rw [row 9 (by omega), es _ (by omega), es _ (by omega)]; exact L.po r r0 r1), (fun r r0 r1 => by rw [es 4 (by omega)] at r1; rw [row 11 (by omega), es _ (by omega)]; exact L.ro r r0 r1), (fun r r0 r1 => by rw [es 4 (by omega)] at r1; rw [row 12 (by omega), es _ (by omega)]; exact L.rp r r0 r1), (fun r r0 r1 => by rw [es 4 (by omega)] at r1; rw [row 13 (by omega), es _ (by omega)]; exact L.rq r r0 r1), (fun r r0 r1 => by rw [es 4 (by omega)] at r1; rw [row 14 (by omega), es _ (by omega)]; exact L.rh r r0 r1), (fun r r0 r1 => by rw [row 15 (by omega), es _ (by omega)]; exact L.mo r r0 r1), (fun r r0 r1 => by rw [es 5 (by omega)] at r1; rw [row 17 (by omega), es _ (by omega)]; exact L.wk r r0 r1), (fun r r0 r1 => by rw [es 5 (by omega)] at r1; rw [row 18 (by omega), es _ (by omega)]; exact L.wh r r0 r1), (fun r r0 r1 => by rw [es 5 (by omega)] at r1; rw [row 19 (by omega), es (175 + 5 * r) (by omega), es (175 + 5 * r + 3) (by omega), es (175 + 5 * r + 2) (by omega)]; exact L.wt r r0 r1), (fun r r0 r1 => by rw [es 5 (by omega)] at r1; rw [row 20 (by omega), es _ (by omega)]; exact L.ww r r0 r1), (fun x y x0 x1 y0 y1 => by rw [es 6 (by omega), es 7 (by omega), es 8 (by omega), es 9 (by omega), ← L.sq x y x0 x1 y0 y1, jow0 13 (by omega)])⟩, fun r r0 r1 => by rw [es 2 (by omega)] at r1; rw [row 4 (by omega)]; exact M r r0 r1, fun r r0 r1 => by rw [es 2 (by omega)] at r1; rw [row 8 (by omega), es _ (by omega), es _ (by omega)]; exact st r r0 r1, by rw [F'.aPe, F.aPe]; exact p12, by rw [rows 2 (by omega) (by omega)]; exact tt, fb⟩
theorem c_row66F (R : RD T n m h 2 2 3 f fa p a) (hf : f ≠ 0) (K : postV h) : wb_X2_readRow_66 h 2 postV := by
  have O := R.o
  have sf := R.sf
  have b := rd_bd h 2 10
  unfold wb_X2_readRow_66
  simp (disch := omega) only [O, fd0, fd1, fd2, fd3, fd4, fd5, fd6, fd7, fd8, fd9, fd10, fd11, fd12, fd13, fd14, fd15, fd16, fd17, fd18, fd19, fd20, fd21, fd22, fd23, fd24, fd25, fd26, fd27, fd28, fd29, fd30, fd31, fd32, fd33, fd34, fd35, fd36, fd37, fd38, fd39, fd40, fd41, fd42, fd43, fd44, fd45, fd46, fd47, fd48, fd49, fd50, fd51, fd52, sf, -Int.reduceToNat, -Int32.reduceToNatClampNeg, il0, il1, il2, il3, il4, il5, il6, il7, il8, il9, il10, il11, il12, il13, il14, il15, il16, il17, il18, il19, il20, il21, il22, il23, il24, il25, il26, il27, il28, il29, il30, il31, il32, il35, il36, il38, il40, il42, il43, il44, il45, il46, il47, il48, il49, il50, il51, il52, il57, il59, il60, il63, il64, il75, il80, il95, il96, il97, il98, il99, il100, il120, il122, il123, il127, il128, il135, il167, il175, il225, il249, il250, il255, il256, il360, il370, il384, il600, il700, il740, il900, il940, il1024, il1600, il4800, il64000, il125000, il262143, il1000000000, iI_toInt, iI_add, iI_sub, iI_mul, iI_neg, iI_lt, iI_le, iI_eq, iI_n, iI_in, iI_div, iI_mod, iI_shm, iI_and1, iI_and7, iI_and63, iI_shr3, iI_shr6, rd_I, ob, Option.some.injEq, exists_eq_left', exists_eq_left, true_and, and_true, fqI, fqJ, eq_self, true_or, or_true, bP_0, bP_0i, npP, bP_1i, bP_b, not_true_eq_false, not_false_eq_true, false_implies, true_implies, implies_true, Classical.not_not, and_self, cP, cP', ite_n, ite_f]
  exact K
theorem c_row17 (R : RD T n m h 2 2 3 f fa p a) (C : CL h fr s N td) (B : BA s td) (h8 : f = 0 → s 1 < 8) (K : ∀ h', CO T n m fr h h' (iteP (f = 0) (iteP (tkK T n m p = 2) (iteP (0 < s 1 ∧ tkS T n m p ≠ s 0) (bdR 2 (tkA T n m p)) (okR (rowU T s (tkA T n m p) (tkS T n m p)) N td (tkE T n m p))) (bdR 1 (tkA T n m p))) (bdR f fa)) → postV h') : wb_X2_readRow_17 h 2 postV := by
  have O := R.o
  obtain ⟨bb0, bb1, bb2, bb3, bb4, bb5⟩ := B.bds
  unfold wb_X2_readRow_17
  refine ⟨O, ?_⟩
  by_cases hf : f = 0
  · subst hf
    rw [ite_t rfl] at K
    have h8 := h8 rfl
    refine c_adv0 R fun g t Rg Ad => ?_
    obtain ⟨t0, a4, a5, a6, a7, a8, a9⟩ := Ad
    have Cg := C.tf t
    have Og := Rg.o
    have Hg := Cg.H
    have p12 := Cg.ft
    have c0 := Cg.L.c0
    have c1 := Cg.L.c1
    have bk := tk_bd (T := T) R.hp R.hm.1
    have sf := Rg.sf
    by_cases ck : tkK T n m p = 2
    · rw [ite_t ck] at K
      obtain ⟨v7, v8⟩ := a8 ck
      obtain ⟨vv, vs, vd, ve, vw⟩ := tkV_ok R.hp ck
      have ok : ¬ (0 < s 1 ∧ tkS T n m p ≠ s 0) → wb_X2_readRow_66 g 2 postV := fun z => by
        rw [ite_f z] at K
        exact c_row66 Rg Cg B h8 vs vd (by rw [v7, vw]) v8 (fun u => Classical.byContradiction fun w => z ⟨u, w⟩) fun h' co => K h' (CO.from t.b2 co)
      simp (disch := omega) only [Og, fd0, fd1, fd2, fd3, fd4, fd5, fd6, fd7, fd8, fd9, fd10, fd11, fd12, fd13, fd14, fd15, fd16, fd17, fd18, fd19, fd20, fd21, fd22, fd23, fd24, fd25, fd26, fd27, fd28, fd29, fd30, fd31, fd32, fd33, fd34, fd35, fd36, fd37, fd38, fd39, fd40, fd41, fd42, fd43, fd44, fd45, fd46, fd47, fd48, fd49, fd50, fd51, fd52, a6, ck, v8, p12, LB.o0 Hg, c0, c1, -Int.reduceToNat, -Int32.reduceToNatClampNeg, il0, il1, il2, il3, il4, il5, il6, il7, il8, il9, il10, il11, il12, il13, il14, il15, il16, il17, il18, il19, il20, il21, il22, il23, il24, il25, il26, il27, il28, il29, il30, il31, il32, il35, il36, il38, il40, il42, il43, il44, il45, il46, il47, il48, il49, il50, il51, il52, il57, il59, il60, il63, il64, il75, il80, il95, il96, il97, il98, il99, il100, il120, il122, il123, il127, il128, il135, il167, il175, il225, il249, il250, il255, il256, il360, il370, il384, il600, il700, il740, il900, il940, il1024, il1600, il4800, il64000, il125000, il262143, il1000000000, iI_toInt, iI_add, iI_sub, iI_mul, iI_neg, iI_lt, iI_le, iI_eq, iI_n, iI_in, iI_div, iI_mod, iI_shm, iI_and1, iI_and7, iI_and63, iI_shr3, iI_shr6, rd_I, ob, Option.some.injEq, exists_eq_left', exists_eq_left, true_and, and_true, fqI, fqJ, eq_self, true_or, or_true, bP_0, bP_0i, npP, bP_1i, bP_b, not_true_eq_false, not_false_eq_true, false_implies, true_implies, implies_true, Classical.not_not, and_self, cP, cP', ite_n, ite_t]
      by_cases z1 : s 1 ≤ 0
      · rw [ite_t z1]; exact ok (by omega)
      rw [ite_f z1]
      by_cases z2 : tkS T n m p = s 0
      · rw [ite_t z2]; exact ok (by omega)
      · rw [ite_f z2]
        rw [ite_t ⟨by omega, z2⟩] at K
        exact c_fail0 Rg (by omega) fun g2 t2 R2 => c_row66F R2 (by omega) (K g2 (CO.bd (t.b2.trans t2.b2) (by omega) R2))
    · rw [ite_f ck] at K
      simp (disch := omega) only [Og, fd0, fd1, fd2, fd3, fd4, fd5, fd6, fd7, fd8, fd9, fd10, fd11, fd12, fd13, fd14, fd15, fd16, fd17, fd18, fd19, fd20, fd21, fd22, fd23, fd24, fd25, fd26, fd27, fd28, fd29, fd30, fd31, fd32, fd33, fd34, fd35, fd36, fd37, fd38, fd39, fd40, fd41, fd42, fd43, fd44, fd45, fd46, fd47, fd48, fd49, fd50, fd51, fd52, a6, -Int.reduceToNat, -Int32.reduceToNatClampNeg, il0, il1, il2, il3, il4, il5, il6, il7, il8, il9, il10, il11, il12, il13, il14, il15, il16, il17, il18, il19, il20, il21, il22, il23, il24, il25, il26, il27, il28, il29, il30, il31, il32, il35, il36, il38, il40, il42, il43, il44, il45, il46, il47, il48, il49, il50, il51, il52, il57, il59, il60, il63, il64, il75, il80, il95, il96, il97, il98, il99, il100, il120, il122, il123, il127, il128, il135, il167, il175, il225, il249, il250, il255, il256, il360, il370, il384, il600, il700, il740, il900, il940, il1024, il1600, il4800, il64000, il125000, il262143, il1000000000, iI_toInt, iI_add, iI_sub, iI_mul, iI_neg, iI_lt, iI_le, iI_eq, iI_n, iI_in, iI_div, iI_mod, iI_shm, iI_and1, iI_and7, iI_and63, iI_shr3, iI_shr6, rd_I, ob, Option.some.injEq, exists_eq_left', exists_eq_left, true_and, and_true, fqI, fqJ, eq_self, true_or, or_true, bP_0, bP_0i, npP, bP_1i, bP_b, not_true_eq_false, not_false_eq_true, false_implies, true_implies, implies_true, Classical.not_not, and_self, cP, cP', ite_n, ite_f]
      exact c_fail0 Rg (by omega) fun g2 t2 R2 => c_row66F R2 (by omega) (K g2 (CO.bd (t.b2.trans t2.b2) (by omega) R2))
  · rw [ite_f hf] at K
    refine c_advF R hf ?_
    have kk := K h (CO.bd (tfF.refl _ _).b2 hf R)
    have k66 : wb_X2_readRow_66 h 2 postV := c_row66F R hf kk
    have H := C.H
    exact ⟨O, fun _ => ⟨O, fr, C.ft, H.o0, fun _ => k66, fun _ => ⟨O, O, fr, C.ft, H.o0, fun _ => k66, fun _ => ⟨O, c_failF R hf k66⟩⟩⟩, fun _ => ⟨O, c_failF R hf k66⟩⟩
theorem c_row (R : RD T n m h 2 2 3 0 fa p a) (C : CL h fr s N td) (B : BA s td) (K : ∀ h', CO T n m fr h h' (sRow T n m s N td a p) → postV h') : wp_X2_readRow h 2 postV := by
  unfold sRow at K
  have O := R.o
  have H := C.H
  have p12 := C.ft
  have c1 := C.L.c1
  obtain ⟨bb0, bb1, bb2, bb3, bb4, bb5⟩ := B.bds
  unfold wp_X2_readRow
  simp (disch := omega) only [O, fd0, fd1, fd2, fd3, fd4, fd5, fd6, fd7, fd8, fd9, fd10, fd11, fd12, fd13, fd14, fd15, fd16, fd17, fd18, fd19, fd20, fd21, fd22, fd23, fd24, fd25, fd26, fd27, fd28, fd29, fd30, fd31, fd32, fd33, fd34, fd35, fd36, fd37, fd38, fd39, fd40, fd41, fd42, fd43, fd44, fd45, fd46, fd47, fd48, fd49, fd50, fd51, fd52, p12, LB.o0 H, c1, -Int.reduceToNat, -Int32.reduceToNatClampNeg, il0, il1, il2, il3, il4, il5, il6, il7, il8, il9, il10, il11, il12, il13, il14, il15, il16, il17, il18, il19, il20, il21, il22, il23, il24, il25, il26, il27, il28, il29, il30, il31, il32, il35, il36, il38, il40, il42, il43, il44, il45, il46, il47, il48, il49, il50, il51, il52, il57, il59, il60, il63, il64, il75, il80, il95, il96, il97, il98, il99, il100, il120, il122, il123, il127, il128, il135, il167, il175, il225, il249, il250, il255, il256, il360, il370, il384, il600, il700, il740, il900, il940, il1024, il1600, il4800, il64000, il125000, il262143, il1000000000, iI_toInt, iI_add, iI_sub, iI_mul, iI_neg, iI_lt, iI_le, iI_eq, iI_n, iI_in, iI_div, iI_mod, iI_shm, iI_and1, iI_and7, iI_and63, iI_shr3, iI_shr6, rd_I, ob, Option.some.injEq, exists_eq_left', exists_eq_left, true_and, and_true, fqI, fqJ, eq_self, true_or, or_true, bP_0, bP_0i, npP, bP_1i, bP_b, not_true_eq_false, not_false_eq_true, false_implies, true_implies, implies_true, Classical.not_not, and_self, cP, cP', ite_n]
  by_cases z : s 1 < 8
  · rw [ite_t z] at K
    rw [ite_t z]
    refine c_row17 R C B (fun _ => z) fun h' co => K h' ?_
    rw [ite_t rfl] at co
    exact co
  · rw [ite_f z] at K
    rw [ite_f z]
    refine c_fail0 R (by omega) fun g t Rg => c_row17 Rg (C.tf t) B (fun u => by omega) fun h' co => K h' (CO.from t.b2 ?_)
    rw [ite_f (by omega)] at co
    exact co
end ROW
