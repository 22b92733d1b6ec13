/-! plans, ACT by ACT -/
abbrev JS : Type := (Int → Int) × (Int × Int × Int) × Int
noncomputable def ps1 (tk : Prop) (q : Int) (v : Int × Int × Int) : Int × Int × Int := iteP (tk ∧ (q + v.1) / 4 % 24 = 12) (v.1 + 1, v.2.1 + 1, if v.2.1 = 0 then v.1 else v.2.2) (v.1 + 1, v.2.1, v.2.2)
noncomputable def psN (tk : Prop) (q : Int) (n : Nat) (v : Int × Int × Int) : Int × Int × Int := foldI (fun _ v => ps1 tk q v) n 0 v
def pvI (n : Int) (v : Int × Int × Int) : Prop := (0 ≤ v.1 ∧ v.1 ≤ n) ∧ (0 ≤ v.2.1 ∧ v.2.1 ≤ v.1) ∧ (-1 ≤ v.2.2 ∧ v.2.2 ≤ v.1) ∧ (v.2.1 = 0 ↔ v.2.2 = -1)
theorem ps1_I {tk : Prop} {q n : Int} {v : Int × Int × Int} (h : pvI n v) : pvI (n + 1) (ps1 tk q v) := by
  obtain ⟨⟨a1, a2⟩, ⟨b1, b2⟩, ⟨c1, c2⟩, d⟩ := h
  unfold ps1
  by_cases c : tk ∧ (q + v.1) / 4 % 24 = 12
  · rw [ite_t c]
    refine ⟨⟨by show 0 ≤ v.1 + 1; omega, by show v.1 + 1 ≤ n + 1; omega⟩, ⟨by show 0 ≤ v.2.1 + 1; omega, by show v.2.1 + 1 ≤ v.1 + 1; omega⟩, ?_, ?_⟩
    · show -1 ≤ (if v.2.1 = 0 then v.1 else v.2.2) ∧ (if v.2.1 = 0 then v.1 else v.2.2) ≤ v.1 + 1
      split <;> omega
    · show v.2.1 + 1 = 0 ↔ (if v.2.1 = 0 then v.1 else v.2.2) = -1
      split
      · omega
      · rename_i q0
        constructor
        · omega
        · intro p; exact absurd (d.mpr p) q0
  · rw [ite_f c]
    exact ⟨⟨by show 0 ≤ v.1 + 1; omega, by show v.1 + 1 ≤ n + 1; omega⟩, ⟨b1, by show v.2.1 ≤ v.1 + 1; omega⟩, ⟨c1, by show v.2.2 ≤ v.1 + 1; omega⟩, d⟩
theorem psN_s {tk : Prop} {q : Int} (n : Nat) (v : Int × Int × Int) : psN tk q (n + 1) v = ps1 tk q (psN tk q n v) := by
  unfold psN
  rw [foldI_snoc]
theorem psN_I {tk : Prop} {q n : Int} {v : Int × Int × Int} (h : pvI n v) : ∀ m : Nat, pvI (n + m) (psN tk q m v) := by
  intro m
  induction m with
  | zero => rw [show n + ((0 : Nat) : Int) = n by omega]; exact h
  | succ m ih => rw [psN_s, show n + ((m + 1 : Nat) : Int) = n + m + 1 by omega]; exact ps1_I ih
noncomputable def stW (s : Int → Int) (q : Int) (J : JS) (how who : Int) : Int := iteP (how = 5) 0 (whyT s J.1 (zC s) who how ((q + J.2.1.1) / 4 % 24))
noncomputable def stJ (s : Int → Int) (q : Int) (J : JS) (how who : Int) : JS := iteP (how = 5) (J.1, psN (busT s J.1 (zC s)) q who.toNat J.2.1, J.2.2) (iteP (stW s q J how who = 0) (candT s J.1 (zC s) who how, psN (busT s J.1 (zC s)) q 1 J.2.1, J.2.2) (J.1, J.2.1, stW s q J how who))
noncomputable def runF (s : Int → Int) (q : Int) : Nat → Int → JS → Int × JS
  | 0, _, J => (-1, J)
  | d + 1, i, J => iteP (stW s q J (s (250 + 2 * i)) (s (250 + 2 * i + 1)) = 0) (runF s q d (i + 1) (stJ s q J (s (250 + 2 * i)) (s (250 + 2 * i + 1)))) (i, stJ s q J (s (250 + 2 * i)) (s (250 + 2 * i + 1)))
/-- a state that may be: n ACTS lie behind it -/
def JI (s : Int → Int) (n : Int) (J : JS) : Prop := VT s J.1 (zC s) ∧ pvI (96 * n) J.2.1 ∧ J.2.2 = 0 ∧ (∀ j, j < 0 ∨ 24 ≤ j → J.1 j = 0) ∧ (∀ j, 3 * s 2 ≤ j → J.1 j = tS s j)
/-- an ACT that may be told -/
def actOk (s : Int → Int) (how who : Int) : Prop := (0 ≤ how ∧ how ≤ 5) ∧ (how ≤ 4 → 0 ≤ who ∧ who < s 2) ∧ (how = 5 → 1 ≤ who ∧ who ≤ 96)
section TRIAL
variable {h h1 h2 h' : AH} {i la fr qa ac tr : Nat} {postV : AH → Prop} {post : AH → Int32 → Prop} {a b c d r x y n sp sq w hh u hr how who one k f q : Int} {s t z T : Int → Int} {J : JS} {v : Int × Int × Int}
theorem GA.act (hG : GA s) (h1 : 0 ≤ a) (h2 : a < s 249) : actOk s (s (250 + 2 * a)) (s (250 + 2 * a + 1)) := by
  have bd := hG.bd
  obtain ⟨p1, p2, p3⟩ := hG.2.2.2.1.2 a h1 h2
  have b1 := hG.sb (250 + 2 * a) (by omega) (by omega)
  have b2 := hG.sb (250 + 2 * a + 1) (by omega) (by omega)
  exact ⟨⟨b1.1, p1⟩, fun q => ⟨b2.1, p2 q⟩, p3⟩
theorem cand_out (hr1 : 0 ≤ r) (hr2 : r < s 2) (n2 : s 2 ≤ 8) (hz : ∀ j, j < 0 ∨ 24 ≤ j → t j = 0) (ho : ∀ j, 3 * s 2 ≤ j → t j = T j) : (∀ j, j < 0 ∨ 24 ≤ j → candT s t z r how j = 0) ∧ ∀ j, 3 * s 2 ≤ j → candT s t z r how j = T j :=
  ⟨fun j hj => by rw [cand_n (by omega)]; exact hz j hj, fun j hj => by rw [cand_n (by omega)]; exact ho j hj⟩
theorem stJ_I (hG : GA s) (hA : actOk s how who) (hJ : JI s n J) (hn : 0 ≤ n) (e : stW s q J how who = 0) : JI s (n + 1) (stJ s q J how who) := by
  have bd := hG.bd
  obtain ⟨V, p, w0, z0, o0⟩ := hJ
  obtain ⟨a1, a2, a3⟩ := hA
  unfold stJ
  by_cases c : how = 5
  · rw [ite_t c]
    have := psN_I (tk := busT s J.1 (zC s)) (q := q) p who.toNat
    have w96 := a3 c
    refine ⟨V, ?_, w0, z0, o0⟩
    obtain ⟨⟨x1, x2⟩, x3⟩ := this
    exact ⟨⟨x1, Int.le_trans x2 (by omega)⟩, x3⟩
  · rw [ite_f c, ite_t e]
    have e' : whyT s J.1 (zC s) who how ((q + J.2.1.1) / 4 % 24) = 0 := by
      unfold stW at e
      rw [ite_f c] at e
      exact e
    obtain ⟨w1, w2⟩ := a2 (by omega)
    have V' := (VT.cand V (hG.z1 w1 w2) bd.1.2 bd.2.1.2 w1 w2 e').1
    have := psN_I (tk := busT s J.1 (zC s)) (q := q) p 1
    obtain ⟨⟨x1, x2⟩, x3⟩ := this
    have co := cand_out (z := zC s) (how := how) w1 w2 bd.2.2.1.2 z0 o0
    exact ⟨V', ⟨⟨x1, Int.le_trans x2 (by omega)⟩, x3⟩, w0, co.1, co.2⟩
/-! the class -/
def CC (h : AH) (la : Nat) (s : Int → Int) : Prop := CSh h ∧ (la = 5 ∨ la = 32) ∧ aP h 31 0 = some la ∧ LB h la ∧ LR h la s ∧ PL h 31 s
theorem CC.gr {wi wj : List Nat} {wq : List (Nat × Nat)} (C : CC h la s) (g : Gr wi wj wq h h') (hi : ∀ a, a ∈ wi → a = 0 ∨ 59 ≤ a) (hj : ∀ a, a ∈ wj → 59 ≤ a) (hq : (31, 0) ∉ wq) : CC h' la s := by
  obtain ⟨S, hl, hp, H, L, P1, P2⟩ := C
  have n1 : ∀ a, a ≠ 0 → a < 59 → a ∉ wi := fun a h0 h1 q => by have := hi a q; omega
  refine ⟨S.gr g, hl, (g.dyn S.o31.2 hq).trans hp, H.gr g (by omega), L.grw H g (fun j hj => n1 _ (by omega) (by omega)) (fun j hj' q => by have := hj _ q; omega), ?_, fun a a1 a2 => ?_⟩
  · rw [g.row S.o31.2 (n1 31 (by omega) (by omega))]; exact P1
  · rw [g.row S.o56.2 (n1 56 (by omega) (by omega)), g.row S.o57.2 (n1 57 (by omega) (by omega))]; exact P2 a a1 a2
theorem Inv.cc (I : Inv h i la fr qa ac) : CC h la (rd h 94) := by
  obtain ⟨S, M, hl, hp, H, L, T, hG, hZ⟩ := I.core
  exact ⟨S, hl, hp, H, L, I.scn.2.2.2.2.2⟩
/-- a trial's cells -/
def TRi (tr : Nat) : Prop := tr = 62 ∨ tr = 66 ∨ tr = 70
def TrR (h : AH) (tr la : Nat) (s : Int → Int) (q : Int) (J : JS) : Prop := rd h tr 1 = q ∧ rd h tr 2 = J.2.1.1 ∧ rd h tr 3 = J.2.2 ∧ rd h tr 4 = J.2.1.2.1 ∧ rd h tr 5 = J.2.1.2.2 ∧ TR h (tr + 1) la s J.1 (zC s)
theorem tr_o (S : CSh h) (hT : TRi tr) : ob h tr 8 ∧ aP h tr 0 = some (tr + 1) ∧ TB h (tr + 1) := by
  rcases hT with rfl | rfl | rfl
  · exact ⟨S.o62, S.p62_0, S.t63⟩
  · exact ⟨S.o66, S.p66_0, S.t67⟩
  · exact ⟨S.o70, S.p70_0, S.t71⟩
theorem TrR.frm (R : TrR h tr la s q J) (f : Fr [tr] [] [] h h') (S : CSh h) : TR h' (tr + 1) la s J.1 (zC s) := by
  obtain ⟨-, -, -, -, -, B, p, q1, q2⟩ := R
  refine ⟨B.fr f ⟨congrFun (f.2.2.2.2.2.2 _ List.not_mem_nil) 1, congrFun (f.2.2.2.2.2.2 _ List.not_mem_nil) 2⟩, (congrFun (f.2.2.2.2.2.2 _ List.not_mem_nil) 0).trans p, fun r r1 r2 => ?_, fun r r1 r2 x y => ?_⟩
  · rw [f.row (by simp; omega)]; exact q1 r r1 r2
  · rw [f.2.2.2.2.2.1 _ List.not_mem_nil]; exact q2 r r1 r2 x y
theorem c_pass (C : CC h la s) (hG : GA s) (hT : TRi tr) (R : TrR h tr la s q J) (hJ : JI s n J) (hn : 0 ≤ n ∧ n ≤ 100) (hq : 0 ≤ q ∧ q < 96) (ha : 0 ≤ a ∧ a ≤ 96)
    (k : ∀ h', Fr [tr] [] [] h h' → TrR h' tr la s q (J.1, psN (busT s J.1 (zC s)) q a.toNat J.2.1, J.2.2) → postV h') : wp_X9_pass h tr (iI a) postV := by
  obtain ⟨S, hl, hp, H, L, P⟩ := C
  obtain ⟨o1, o2, o3⟩ := tr_o S hT
  obtain ⟨V, pp, w0, z0⟩ := hJ
  have R0 := R
  obtain ⟨e1, e2, e3, e4, e5, e6⟩ := R
  unfold wp_X9_pass
  refine ⟨o1, tr + 1, o2, o3.o0, (c_isSquareTaken H L e6 hG.1 V hG.2.2.1).mpr ?_⟩
  refine lf_for (W := fun m (g : AH) j => wl_X9_pass_10 postV m g tr (iI a) (bP (busT s J.1 (zC s))) (iI j)) (lo := 0) (hi := a) (fun j g => Fr [tr] [] [] h g ∧ rd g tr 1 = q ∧ rd g tr 3 = J.2.2 ∧ (rd g tr 2, rd g tr 4, rd g tr 5) = psN (busT s J.1 (zC s)) q j.toNat J.2.1) (by omega) ?_ ?_ h ⟨(Fr.refl h).mono (by simp) (by simp) (by simp), e1, e3, by rw [e2, e4, e5]; rfl⟩
  · intro m g j j1 j2 hg kk
    obtain ⟨fg, g1, g3, gv⟩ := hg
    have pj := psN_I (tk := busT s J.1 (zC s)) (q := q) pp j.toNat
    rw [← gv] at pj
    obtain ⟨⟨x1, x2⟩, ⟨y1, y2⟩, ⟨u1, u2⟩, d⟩ := pj
    have x1 : 0 ≤ rd g tr 2 := x1
    have x2 : rd g tr 2 ≤ 96 * n + j.toNat := x2
    have y1 : 0 ≤ rd g tr 4 := y1
    have y2 : rd g tr 4 ≤ rd g tr 2 := y2
    have u2 : rd g tr 5 ≤ rd g tr 2 := u2
    have eN : (j + 1).toNat = j.toNat + 1 := by omega
    have og : ∀ (g' : AH), Fr [tr] [] [] h g' → ob g' tr 8 := fun g' f' => ⟨by rw [f'.2.2.1]; exact o1.1, by rw [f'.1]; exact o1.2⟩
    have O := og g fg
    show wb_X9_pass_10 (wl_X9_pass_10 postV m) g tr (iI a) (bP (busT s J.1 (zC s))) (iI j) postV
    -- the clock goes on
    have tick : ∀ (g' : AH), Fr [tr] [] [] h g' → rd g' tr 1 = q → rd g' tr 3 = J.2.2 → rd g' tr 2 = rd g tr 2 → (rd g tr 2 + 1, rd g' tr 4, rd g' tr 5) = ps1 (busT s J.1 (zC s)) q (rd g tr 2, rd g tr 4, rd g tr 5) → wb_X9_pass_63 (wl_X9_pass_10 postV m) g' tr (iI a) (bP (busT s J.1 (zC s))) (iI j) postV := by
      intro g' f' q1 q3 q2 qv
      have O' := og g' f'
      unfold wb_X9_pass_63
      simp (disch := omega) only [O', fd0, fd1, fd2, fd3, fd4, fd5, fd6, fd7, fd8, fd9, fd10, fd11, fd12, fd13, fd14, fd15, fd16, fd17, fd18, fd19, fd20, fd21, fd22, fd23, fd24, fd25, fd26, fd27, fd28, fd29, fd30, fd31, fd32, fd33, fd34, fd35, fd36, fd37, fd38, fd39, fd40, fd41, fd42, fd43, fd44, fd45, fd46, fd47, fd48, fd49, fd50, fd51, fd52, -Int.reduceToNat, -Int32.reduceToNatClampNeg, il0, il1, il2, il3, il4, il5, il6, il7, il8, il9, il10, il11, il12, il13, il14, il15, il16, il17, il18, il19, il20, il21, il22, il23, il24, il25, il26, il27, il28, il29, il30, il31, il32, il35, il36, il38, il40, il42, il43, il44, il45, il46, il47, il48, il49, il50, il51, il52, il57, il59, il60, il63, il64, il75, il80, il95, il96, il97, il98, il99, il100, il120, il122, il123, il127, il128, il135, il167, il175, il225, il249, il250, il255, il256, il360, il370, il384, il600, il700, il740, il900, il940, il1024, il1600, il4800, il64000, il125000, il262143, il1000000000, iI_toInt, iI_add, iI_sub, iI_mul, iI_neg, iI_lt, iI_le, iI_eq, iI_n, iI_in, iI_div, iI_mod, iI_shm, iI_and1, iI_and7, iI_and63, iI_shr3, iI_shr6, rd_I, ob, Option.some.injEq, exists_eq_left', exists_eq_left, true_and, and_true, fqI, fqJ, eq_self, true_or, or_true, bP_0, bP_0i, npP, bP_1i, bP_b, not_true_eq_false, not_false_eq_true, false_implies, true_implies, implies_true, Classical.not_not, and_self]
      intro g2 eg
      obtain ⟨f2, r2⟩ := wI (i := 2) (by omega) (by omega) (by omega) eg
      refine kk g2 ⟨f'.trans f2, by rw [r2, updT_n (by omega), q1], by rw [r2, updT_n (by omega), q3], ?_⟩
      rw [eN, psN_s, ← gv, ← qv, r2, updT_s, updT_n (by omega), updT_n (by omega), q2]
    unfold wb_X9_pass_10 wb_X9_pass_53
    simp (disch := omega) only [O, fd0, fd1, fd2, fd3, fd4, fd5, fd6, fd7, fd8, fd9, fd10, fd11, fd12, fd13, fd14, fd15, fd16, fd17, fd18, fd19, fd20, fd21, fd22, fd23, fd24, fd25, fd26, fd27, fd28, fd29, fd30, fd31, fd32, fd33, fd34, fd35, fd36, fd37, fd38, fd39, fd40, fd41, fd42, fd43, fd44, fd45, fd46, fd47, fd48, fd49, fd50, fd51, fd52, g1, -Int.reduceToNat, -Int32.reduceToNatClampNeg, il0, il1, il2, il3, il4, il5, il6, il7, il8, il9, il10, il11, il12, il13, il14, il15, il16, il17, il18, il19, il20, il21, il22, il23, il24, il25, il26, il27, il28, il29, il30, il31, il32, il35, il36, il38, il40, il42, il43, il44, il45, il46, il47, il48, il49, il50, il51, il52, il57, il59, il60, il63, il64, il75, il80, il95, il96, il97, il98, il99, il100, il120, il122, il123, il127, il128, il135, il167, il175, il225, il249, il250, il255, il256, il360, il370, il384, il600, il700, il740, il900, il940, il1024, il1600, il4800, il64000, il125000, il262143, il1000000000, iI_toInt, iI_add, iI_sub, iI_mul, iI_neg, iI_lt, iI_le, iI_eq, iI_n, iI_in, iI_div, iI_mod, iI_shm, iI_and1, iI_and7, iI_and63, iI_shr3, iI_shr6, rd_I, ob, Option.some.injEq, exists_eq_left', exists_eq_left, true_and, and_true, fqI, fqJ, eq_self, true_or, or_true, bP_0, bP_0i, npP, bP_1i, bP_b, not_true_eq_false, not_false_eq_true, false_implies, true_implies, implies_true, Classical.not_not, and_self, cP, cP', ite_n, ite_f]
    have em : (q + rd g tr 2) / 4 - (q + rd g tr 2) / 4 / 24 * 24 = (q + rd g tr 2) / 4 % 24 := by omega
    rw [em]
    by_cases cb : busT s J.1 (zC s)
    case neg =>
      rw [ite_f cb]
      exact tick g fg g1 g3 rfl (by unfold ps1; rw [ite_f (fun p => cb p.1)])
    rw [ite_t cb]
    by_cases cn : (q + rd g tr 2) / 4 % 24 = 12
    case neg =>
      rw [ite_f cn]
      exact tick g fg g1 g3 rfl (by unfold ps1; rw [ite_f (fun p => cn p.2)])
    rw [ite_t cn]
    by_cases c0 : rd g tr 4 = 0
    · rw [ite_t c0]
      intro g2 eg
      obtain ⟨f2, r2⟩ := wI (i := 5) (by omega) (by omega) (by omega) eg
      have F2 := fg.trans f2
      have O2 := og g2 F2
      have g24 : rd g2 tr 4 = rd g tr 4 := by rw [r2, updT_n (by omega)]
      simp (disch := omega) only [O2, fd0, fd1, fd2, fd3, fd4, fd5, fd6, fd7, fd8, fd9, fd10, fd11, fd12, fd13, fd14, fd15, fd16, fd17, fd18, fd19, fd20, fd21, fd22, fd23, fd24, fd25, fd26, fd27, fd28, fd29, fd30, fd31, fd32, fd33, fd34, fd35, fd36, fd37, fd38, fd39, fd40, fd41, fd42, fd43, fd44, fd45, fd46, fd47, fd48, fd49, fd50, fd51, fd52, g24, -Int.reduceToNat, -Int32.reduceToNatClampNeg, il0, il1, il2, il3, il4, il5, il6, il7, il8, il9, il10, il11, il12, il13, il14, il15, il16, il17, il18, il19, il20, il21, il22, il23, il24, il25, il26, il27, il28, il29, il30, il31, il32, il35, il36, il38, il40, il42, il43, il44, il45, il46, il47, il48, il49, il50, il51, il52, il57, il59, il60, il63, il64, il75, il80, il95, il96, il97, il98, il99, il100, il120, il122, il123, il127, il128, il135, il167, il175, il225, il249, il250, il255, il256, il360, il370, il384, il600, il700, il740, il900, il940, il1024, il1600, il4800, il64000, il125000, il262143, il1000000000, iI_toInt, iI_add, iI_sub, iI_mul, iI_neg, iI_lt, iI_le, iI_eq, iI_n, iI_in, iI_div, iI_mod, iI_shm, iI_and1, iI_and7, iI_and63, iI_shr3, iI_shr6, rd_I, ob, Option.some.injEq, exists_eq_left', exists_eq_left, true_and, and_true, fqI, fqJ, eq_self, true_or, or_true, bP_0, bP_0i, npP, bP_1i, bP_b, not_true_eq_false, not_false_eq_true, false_implies, true_implies, implies_true, Classical.not_not, and_self]
      intro g3' eg3
      obtain ⟨f3, r3⟩ := wI (i := 4) (by omega) (by omega) (by omega) eg3
      refine tick g3' (F2.trans f3) ?_ ?_ ?_ ?_
      · rw [r3, updT_n (by omega), r2, updT_n (by omega), g1]
      · rw [r3, updT_n (by omega), r2, updT_n (by omega), g3]
      · rw [r3, updT_n (by omega), r2, updT_n (by omega)]
      · unfold ps1
        rw [ite_t ⟨cb, cn⟩, r3, updT_s, updT_n (by omega), r2, updT_s, if_pos c0]
    · rw [ite_f c0]
      intro g2 eg
      obtain ⟨f2, r2⟩ := wI (i := 4) (by omega) (by omega) (by omega) eg
      refine tick g2 (fg.trans f2) ?_ ?_ ?_ ?_
      · rw [r2, updT_n (by omega), g1]
      · rw [r2, updT_n (by omega), g3]
      · rw [r2, updT_n (by omega)]
      · unfold ps1
        rw [ite_t ⟨cb, cn⟩, r2, updT_s, updT_n (by omega), if_neg c0]
  · intro m g hg
    obtain ⟨fg, g1, g3, gv⟩ := hg
    show wb_X9_pass_10 (wl_X9_pass_10 postV m) g tr (iI a) (bP (busT s J.1 (zC s))) (iI a) postV
    unfold wb_X9_pass_10
    simp (disch := omega) only [-Int.reduceToNat, -Int32.reduceToNatClampNeg, il0, il1, il2, il3, il4, il5, il6, il7, il8, il9, il10, il11, il12, il13, il14, il15, il16, il17, il18, il19, il20, il21, il22, il23, il24, il25, il26, il27, il28, il29, il30, il31, il32, il35, il36, il38, il40, il42, il43, il44, il45, il46, il47, il48, il49, il50, il51, il52, il57, il59, il60, il63, il64, il75, il80, il95, il96, il97, il98, il99, il100, il120, il122, il123, il127, il128, il135, il167, il175, il225, il249, il250, il255, il256, il360, il370, il384, il600, il700, il740, il900, il940, il1024, il1600, il4800, il64000, il125000, il262143, il1000000000, iI_toInt, iI_add, iI_sub, iI_mul, iI_neg, iI_lt, iI_le, iI_eq, iI_n, iI_in, iI_div, iI_mod, iI_shm, iI_and1, iI_and7, iI_and63, iI_shr3, iI_shr6, rd_I, ob, Option.some.injEq, exists_eq_left', exists_eq_left, true_and, and_true, fqI, fqJ, eq_self, true_or, or_true, bP_0, bP_0i, npP, bP_1i, bP_b, not_true_eq_false, not_false_eq_true, false_implies, true_implies, implies_true, Classical.not_not, and_self, cP, cP', ite_n, ite_T, ite_F, ite_t, ite_f]
    refine k g fg ⟨g1, ?_, g3, ?_, ?_, R0.frm fg S⟩
    · exact congrArg (fun v : Int × Int × Int => v.1) gv
    · exact congrArg (fun v : Int × Int × Int => v.2.1) gv
    · exact congrArg (fun v : Int × Int × Int => v.2.2) gv
theorem c_step (C : CC h la s) (hG : GA s) (hT : TRi tr) (R : TrR h tr la s q J) (hJ : JI s n J) (hn : 0 ≤ n ∧ n ≤ 100) (hq : 0 ≤ q ∧ q < 96) (hA : actOk s how who)
    (k : ∀ h', Fr [tr, tr + 2] [tr + 3] [] h h' → TrR h' tr la s q (stJ s q J how who) → post h' (bP (stW s q J how who = 0))) : wp_X9_step h tr (iI how) (iI who) post := by
  have bd := hG.bd
  have C0 := C
  obtain ⟨S, hl, hp, H, L, P⟩ := C
  obtain ⟨o1, o2, o3⟩ := tr_o S hT
  obtain ⟨a1, a2, a3⟩ := hA
  obtain ⟨V, pp, w0, z0⟩ := id hJ
  have pp' := pp
  obtain ⟨⟨x1, x2⟩, ⟨y1, y2⟩, ⟨u1, u2⟩, d⟩ := pp'
  have R0 := R
  obtain ⟨e1, e2, e3, e4, e5, e6⟩ := R
  have h59 : 59 ≤ tr := by rcases hT with rfl | rfl | rfl <;> omega
  unfold wp_X9_step
  by_cases c5 : how = 5
  · subst c5
    simp (disch := omega) only [o1, -Int.reduceToNat, -Int32.reduceToNatClampNeg, il0, il1, il2, il3, il4, il5, il6, il7, il8, il9, il10, il11, il12, il13, il14, il15, il16, il17, il18, il19, il20, il21, il22, il23, il24, il25, il26, il27, il28, il29, il30, il31, il32, il35, il36, il38, il40, il42, il43, il44, il45, il46, il47, il48, il49, il50, il51, il52, il57, il59, il60, il63, il64, il75, il80, il95, il96, il97, il98, il99, il100, il120, il122, il123, il127, il128, il135, il167, il175, il225, il249, il250, il255, il256, il360, il370, il384, il600, il700, il740, il900, il940, il1024, il1600, il4800, il64000, il125000, il262143, il1000000000, iI_toInt, iI_add, iI_sub, iI_mul, iI_neg, iI_lt, iI_le, iI_eq, iI_n, iI_in, iI_div, iI_mod, iI_shm, iI_and1, iI_and7, iI_and63, iI_shr3, iI_shr6, rd_I, ob, Option.some.injEq, exists_eq_left', exists_eq_left, true_and, and_true, fqI, fqJ, eq_self, true_or, or_true, bP_0, bP_0i, npP, bP_1i, bP_b, not_true_eq_false, not_false_eq_true, false_implies, true_implies, implies_true, Classical.not_not, and_self, cP, cP', ite_n, ite_T, ite_F, ite_t, ite_f]
    have w96 := a3 rfl
    refine c_pass C0 hG hT R0 hJ hn hq (by omega) fun h' f' R' => ?_
    have eW : stW s q J 5 who = 0 := by unfold stW; rw [ite_t rfl]
    have eJ : stJ s q J 5 who = (J.1, psN (busT s J.1 (zC s)) q who.toNat J.2.1, J.2.2) := by unfold stJ; rw [ite_t rfl]
    have := k h' (f'.mono (by simp) (by simp) (by simp)) (by rw [eJ]; exact R')
    rw [bP_t eW] at this
    exact this
  obtain ⟨w1, w2⟩ := a2 (by omega)
  have eW : stW s q J how who = whyT s J.1 (zC s) who how ((q + J.2.1.1) / 4 % 24) := by unfold stW; rw [ite_f c5]
  have em : (q + J.2.1.1) / 4 - (q + J.2.1.1) / 4 / 24 * 24 = (q + J.2.1.1) / 4 % 24 := by omega
  have wb := why_bd (s := s) (t := J.1) (z := zC s) (r := who) (how := how) (hr := (q + J.2.1.1) / 4 % 24)
  simp (disch := omega) only [o1, o2, o3.o0, fd0, fd1, fd2, fd3, fd4, fd5, fd6, fd7, fd8, fd9, fd10, fd11, fd12, fd13, fd14, fd15, fd16, fd17, fd18, fd19, fd20, fd21, fd22, fd23, fd24, fd25, fd26, fd27, fd28, fd29, fd30, fd31, fd32, fd33, fd34, fd35, fd36, fd37, fd38, fd39, fd40, fd41, fd42, fd43, fd44, fd45, fd46, fd47, fd48, fd49, fd50, fd51, fd52, e1, e2, -Int.reduceToNat, -Int32.reduceToNatClampNeg, il0, il1, il2, il3, il4, il5, il6, il7, il8, il9, il10, il11, il12, il13, il14, il15, il16, il17, il18, il19, il20, il21, il22, il23, il24, il25, il26, il27, il28, il29, il30, il31, il32, il35, il36, il38, il40, il42, il43, il44, il45, il46, il47, il48, il49, il50, il51, il52, il57, il59, il60, il63, il64, il75, il80, il95, il96, il97, il98, il99, il100, il120, il122, il123, il127, il128, il135, il167, il175, il225, il249, il250, il255, il256, il360, il370, il384, il600, il700, il740, il900, il940, il1024, il1600, il4800, il64000, il125000, il262143, il1000000000, iI_toInt, iI_add, iI_sub, iI_mul, iI_neg, iI_lt, iI_le, iI_eq, iI_n, iI_in, iI_div, iI_mod, iI_shm, iI_and1, iI_and7, iI_and63, iI_shr3, iI_shr6, rd_I, ob, Option.some.injEq, exists_eq_left', exists_eq_left, true_and, and_true, fqI, fqJ, eq_self, true_or, or_true, bP_0, bP_0i, npP, bP_1i, bP_b, not_true_eq_false, not_false_eq_true, false_implies, true_implies, implies_true, Classical.not_not, and_self, cP, cP', ite_n, ite_f]
  rw [em, c_attempt H L e6 hG.1 (EZ.c _) V w1 w2 a1.1 (by omega) (by omega) (by omega)]
  unfold attT
  by_cases c0 : whyT s J.1 (zC s) who how ((q + J.2.1.1) / 4 % 24) = 0
  · obtain ⟨V', hS, hI⟩ := VT.cand V (hG.z1 w1 w2) bd.1.2 bd.2.1.2 w1 w2 c0
    have en := enc_nn hS
    rw [ite_t c0]
    simp (disch := omega) only [o1, -Int.reduceToNat, -Int32.reduceToNatClampNeg, il0, il1, il2, il3, il4, il5, il6, il7, il8, il9, il10, il11, il12, il13, il14, il15, il16, il17, il18, il19, il20, il21, il22, il23, il24, il25, il26, il27, il28, il29, il30, il31, il32, il35, il36, il38, il40, il42, il43, il44, il45, il46, il47, il48, il49, il50, il51, il52, il57, il59, il60, il63, il64, il75, il80, il95, il96, il97, il98, il99, il100, il120, il122, il123, il127, il128, il135, il167, il175, il225, il249, il250, il255, il256, il360, il370, il384, il600, il700, il740, il900, il940, il1024, il1600, il4800, il64000, il125000, il262143, il1000000000, iI_toInt, iI_add, iI_sub, iI_mul, iI_neg, iI_lt, iI_le, iI_eq, iI_n, iI_in, iI_div, iI_mod, iI_shm, iI_and1, iI_and7, iI_and63, iI_shr3, iI_shr6, rd_I, ob, Option.some.injEq, exists_eq_left', exists_eq_left, true_and, and_true, fqI, fqJ, eq_self, true_or, or_true, bP_0, bP_0i, npP, bP_1i, bP_b, not_true_eq_false, not_false_eq_true, false_implies, true_implies, implies_true, Classical.not_not, and_self, cP, cP', ite_n, ite_T, ite_F, ite_t, ite_f]
    refine c_pass C0 hG hT R0 hJ hn hq (a := 1) (by omega) fun h1 f1 R1 => ?_
    have C1 := C0.gr f1.gr (fun a ha => by simp at ha; omega) (fun a ha => absurd ha List.not_mem_nil) List.not_mem_nil
    obtain ⟨S1, hl1, hp1, H1, L1, P1⟩ := C1
    obtain ⟨p1, p2, p3⟩ := tr_o S1 hT
    obtain ⟨d1, d2, d3, d4, d5, d6⟩ := R1
    refine ⟨p1, tr + 1, p2, p3.o0, c_put H1 L1 p3 d6.2.1 (by unfold LD; omega) hG.sd bd.2.2.1.2 w1 w2 en.1 en.2 fun h2 f2 es ej => ?_⟩
    have eJ : stJ s q J how who = (candT s J.1 (zC s) who how, psN (busT s J.1 (zC s)) q 1 J.2.1, J.2.2) := by
      unfold stJ
      rw [ite_f c5, ite_t (by rw [eW]; exact c0)]
    have := k h2 ((f1.mono (by simp) (by simp) (by simp)).trans (f2.mono (by simp) (by simp) (by simp))) (by
      rw [eJ]
      have nt : tr ∉ [tr + 1 + 1] := by simp; omega
      exact ⟨by rw [f2.row nt]; exact d1, by rw [f2.row nt]; exact d2, by rw [f2.row nt]; exact d3, by rw [f2.row nt]; exact d4, by rw [f2.row nt]; exact d5, TR.put d6 f2 (EZ.c _) hG.sd bd.2.2.1.2 w1 w2 (fun j hj => cand_n hj) hS hI es ej⟩)
    rw [bP_t (by rw [eW]; exact c0)] at this
    exact this
  · rw [ite_f c0]
    simp (disch := omega) only [o1, -Int.reduceToNat, -Int32.reduceToNatClampNeg, il0, il1, il2, il3, il4, il5, il6, il7, il8, il9, il10, il11, il12, il13, il14, il15, il16, il17, il18, il19, il20, il21, il22, il23, il24, il25, il26, il27, il28, il29, il30, il31, il32, il35, il36, il38, il40, il42, il43, il44, il45, il46, il47, il48, il49, il50, il51, il52, il57, il59, il60, il63, il64, il75, il80, il95, il96, il97, il98, il99, il100, il120, il122, il123, il127, il128, il135, il167, il175, il225, il249, il250, il255, il256, il360, il370, il384, il600, il700, il740, il900, il940, il1024, il1600, il4800, il64000, il125000, il262143, il1000000000, iI_toInt, iI_add, iI_sub, iI_mul, iI_neg, iI_lt, iI_le, iI_eq, iI_n, iI_in, iI_div, iI_mod, iI_shm, iI_and1, iI_and7, iI_and63, iI_shr3, iI_shr6, rd_I, ob, Option.some.injEq, exists_eq_left', exists_eq_left, true_and, and_true, fqI, fqJ, eq_self, true_or, or_true, bP_0, bP_0i, npP, bP_1i, bP_b, not_true_eq_false, not_false_eq_true, false_implies, true_implies, implies_true, Classical.not_not, and_self, cP, cP', ite_n, ite_T, ite_F, ite_t, ite_f, Int.neg_neg]
    intro h1 eh
    obtain ⟨f1, r1⟩ := wI (i := 3) (by omega) (by omega) (by omega) eh
    have eJ : stJ s q J how who = (J.1, J.2.1, whyT s J.1 (zC s) who how ((q + J.2.1.1) / 4 % 24)) := by
      unfold stJ
      rw [ite_f c5, ite_f (by rw [eW]; exact c0), eW]
    have := k h1 (f1.mono (by simp) (by simp) (by simp)) (by
      rw [eJ]
      exact ⟨by rw [r1, updT_n (by omega)]; exact e1, by rw [r1, updT_n (by omega)]; exact e2, by rw [r1, updT_s], by rw [r1, updT_n (by omega)]; exact e4, by rw [r1, updT_n (by omega)]; exact e5, R0.frm f1 S⟩)
    rw [bP_f (by rw [eW]; exact c0)] at this
    exact this
theorem c_runFrom (hG : GA s) (hT : TRi tr) (hq : 0 ≤ q ∧ q < 96) : ∀ (d : Nat) (j n : Int) (J : JS) (h : AH), CC h la s → TrR h tr la s q J → JI s n J → 0 ≤ n → n + d ≤ 100 → 0 ≤ j → j + d = s 249 →
    (∀ h', Fr [tr, tr + 2] [tr + 3] [] h h' → TrR h' tr la s q (runF s q d j J).2 → post h' (iI (runF s q d j J).1)) → wp_X9_runFrom h tr 31 (iI j) post := by
  have bd := hG.bd
  have key : ∀ (d : Nat) (j n : Int) (J : JS) (h : AH), CC h la s → TrR h tr la s q J → JI s n J → 0 ≤ n → n + d ≤ 100 → 0 ≤ j → j + d = s 249 →
    (∀ h', Fr [tr, tr + 2] [tr + 3] [] h h' → TrR h' tr la s q (runF s q d j J).2 → post h' (iI (runF s q d j J).1)) → wl_X9_runFrom_2 post (d + 1) h tr 31 (iI j) := by
    intro d
    induction d with
    | zero =>
      intro j n J h C R hJ n0 nd j0 jd k
      obtain ⟨S, hl, hp, H, L, P1, P2⟩ := C
      show wb_X9_runFrom_2 (wl_X9_runFrom_2 post 0) h tr 31 (iI j) post
      unfold wb_X9_runFrom_2
      have P1 : rd h 31 2 = s 249 := P1
      simp (disch := omega) only [CSh.o0 S, CSh.o1 S, CSh.o2 S, CSh.o3 S, CSh.o26 S, CSh.o27 S, CSh.o29 S, CSh.o30 S, CSh.o31 S, CSh.o56 S, CSh.o57 S, CSh.o58 S, CSh.o62 S, CSh.o66 S, CSh.o70 S, CSh.o74 S, CSh.o75 S, CSh.o77 S, CSh.o79 S, CSh.o80 S, CSh.o81 S, CSh.o82 S, CSh.o83 S, CSh.o84 S, CSh.o85 S, CSh.o86 S, CSh.o87 S, CSh.o88 S, CSh.o53 S, CSh.o54 S, CSh.o55 S, CSh.o59 S, CSh.o60 S, CSh.o61 S, CSh.o63 S, CSh.o64 S, CSh.o65 S, CSh.o67 S, CSh.o68 S, CSh.o69 S, CSh.o71 S, CSh.o72 S, CSh.o73 S, CSh.o89 S, CSh.o90 S, CSh.o91 S, CSh.l1 S, CSh.l3 S, CSh.l27 S, CSh.l29 S, CSh.l30 S, CSh.l56 S, CSh.l57 S, CSh.l58 S, CSh.l75 S, CSh.l77 S, CSh.l79 S, CSh.l81 S, CSh.l82 S, CSh.l83 S, CSh.l84 S, CSh.l85 S, CSh.l86 S, CSh.l87 S, CSh.l88 S, CSh.l54 S, CSh.l55 S, CSh.l60 S, CSh.l61 S, CSh.l64 S, CSh.l65 S, CSh.l68 S, CSh.l69 S, CSh.l72 S, CSh.l73 S, CSh.l90 S, CSh.l91 S, CSh.p0_0 S, CSh.p0_3 S, CSh.p0_4 S, CSh.p0_5 S, CSh.p0_6 S, CSh.p0_7 S, CSh.p0_8 S, CSh.p0_9 S, CSh.p0_10 S, CSh.p0_14 S, CSh.p2_0 S, CSh.p26_0 S, CSh.p26_13 S, CSh.p26_14 S, CSh.p31_1 S, CSh.p31_3 S, CSh.p31_4 S, CSh.p62_0 S, CSh.p66_0 S, CSh.p70_0 S, CSh.p74_0 S, CSh.p74_1 S, CSh.p74_6 S, CSh.p74_7 S, CSh.p74_10 S, CSh.p80_1 S, CSh.p80_2 S, CSh.p80_3 S, CSh.p80_4 S, CSh.p80_5 S, CSh.p80_6 S, CSh.p80_7 S, CSh.p80_8 S, CSh.p53_1 S, CSh.p53_2 S, CSh.p59_1 S, CSh.p59_2 S, CSh.p63_1 S, CSh.p63_2 S, CSh.p67_1 S, CSh.p67_2 S, CSh.p71_1 S, CSh.p71_2 S, CSh.p89_1 S, CSh.p89_2 S, fd0, fd1, fd2, fd3, fd4, fd5, fd6, fd7, fd8, fd9, fd10, fd11, fd12, fd13, fd14, fd15, fd16, fd17, fd18, fd19, fd20, fd21, fd22, fd23, fd24, fd25, fd26, fd27, fd28, fd29, fd30, fd31, fd32, fd33, fd34, fd35, fd36, fd37, fd38, fd39, fd40, fd41, fd42, fd43, fd44, fd45, fd46, fd47, fd48, fd49, fd50, fd51, fd52, P1, -Int.reduceToNat, -Int32.reduceToNatClampNeg, il0, il1, il2, il3, il4, il5, il6, il7, il8, il9, il10, il11, il12, il13, il14, il15, il16, il17, il18, il19, il20, il21, il22, il23, il24, il25, il26, il27, il28, il29, il30, il31, il32, il35, il36, il38, il40, il42, il43, il44, il45, il46, il47, il48, il49, il50, il51, il52, il57, il59, il60, il63, il64, il75, il80, il95, il96, il97, il98, il99, il100, il120, il122, il123, il127, il128, il135, il167, il175, il225, il249, il250, il255, il256, il360, il370, il384, il600, il700, il740, il900, il940, il1024, il1600, il4800, il64000, il125000, il262143, il1000000000, iI_toInt, iI_add, iI_sub, iI_mul, iI_neg, iI_lt, iI_le, iI_eq, iI_n, iI_in, iI_div, iI_mod, iI_shm, iI_and1, iI_and7, iI_and63, iI_shr3, iI_shr6, rd_I, ob, Option.some.injEq, exists_eq_left', exists_eq_left, true_and, and_true, fqI, fqJ, eq_self, true_or, or_true, bP_0, bP_0i, npP, bP_1i, bP_b, not_true_eq_false, not_false_eq_true, false_implies, true_implies, implies_true, Classical.not_not, and_self, cP, cP', ite_n, ite_T, ite_F, ite_t, ite_f]
      exact k h ((Fr.refl h).mono (by simp) (by simp) (by simp)) R
    | succ d ih =>
      intro j n J h C R hJ n0 nd j0 jd k
      have C0 := C
      obtain ⟨S, hl, hp, H, L, P1, P2⟩ := C
      have A := hG.act j0 (show j < s 249 by omega)
      have P1 : rd h 31 2 = s 249 := P1
      obtain ⟨Pa, Pb⟩ := P2 j j0 (by omega)
      have Pa : rd h 56 j = s (250 + 2 * j) := Pa
      have Pb : rd h 57 j = s (250 + 2 * j + 1) := Pb
      have h59 : 59 ≤ tr := by rcases hT with rfl | rfl | rfl <;> omega
      have o1 := (tr_o S hT).1
      show wb_X9_runFrom_2 (wl_X9_runFrom_2 post (d + 1)) h tr 31 (iI j) post
      unfold wb_X9_runFrom_2
      simp (disch := omega) only [CSh.o0 S, CSh.o1 S, CSh.o2 S, CSh.o3 S, CSh.o26 S, CSh.o27 S, CSh.o29 S, CSh.o30 S, CSh.o31 S, CSh.o56 S, CSh.o57 S, CSh.o58 S, CSh.o62 S, CSh.o66 S, CSh.o70 S, CSh.o74 S, CSh.o75 S, CSh.o77 S, CSh.o79 S, CSh.o80 S, CSh.o81 S, CSh.o82 S, CSh.o83 S, CSh.o84 S, CSh.o85 S, CSh.o86 S, CSh.o87 S, CSh.o88 S, CSh.o53 S, CSh.o54 S, CSh.o55 S, CSh.o59 S, CSh.o60 S, CSh.o61 S, CSh.o63 S, CSh.o64 S, CSh.o65 S, CSh.o67 S, CSh.o68 S, CSh.o69 S, CSh.o71 S, CSh.o72 S, CSh.o73 S, CSh.o89 S, CSh.o90 S, CSh.o91 S, CSh.l1 S, CSh.l3 S, CSh.l27 S, CSh.l29 S, CSh.l30 S, CSh.l56 S, CSh.l57 S, CSh.l58 S, CSh.l75 S, CSh.l77 S, CSh.l79 S, CSh.l81 S, CSh.l82 S, CSh.l83 S, CSh.l84 S, CSh.l85 S, CSh.l86 S, CSh.l87 S, CSh.l88 S, CSh.l54 S, CSh.l55 S, CSh.l60 S, CSh.l61 S, CSh.l64 S, CSh.l65 S, CSh.l68 S, CSh.l69 S, CSh.l72 S, CSh.l73 S, CSh.l90 S, CSh.l91 S, CSh.p0_0 S, CSh.p0_3 S, CSh.p0_4 S, CSh.p0_5 S, CSh.p0_6 S, CSh.p0_7 S, CSh.p0_8 S, CSh.p0_9 S, CSh.p0_10 S, CSh.p0_14 S, CSh.p2_0 S, CSh.p26_0 S, CSh.p26_13 S, CSh.p26_14 S, CSh.p31_1 S, CSh.p31_3 S, CSh.p31_4 S, CSh.p62_0 S, CSh.p66_0 S, CSh.p70_0 S, CSh.p74_0 S, CSh.p74_1 S, CSh.p74_6 S, CSh.p74_7 S, CSh.p74_10 S, CSh.p80_1 S, CSh.p80_2 S, CSh.p80_3 S, CSh.p80_4 S, CSh.p80_5 S, CSh.p80_6 S, CSh.p80_7 S, CSh.p80_8 S, CSh.p53_1 S, CSh.p53_2 S, CSh.p59_1 S, CSh.p59_2 S, CSh.p63_1 S, CSh.p63_2 S, CSh.p67_1 S, CSh.p67_2 S, CSh.p71_1 S, CSh.p71_2 S, CSh.p89_1 S, CSh.p89_2 S, fd0, fd1, fd2, fd3, fd4, fd5, fd6, fd7, fd8, fd9, fd10, fd11, fd12, fd13, fd14, fd15, fd16, fd17, fd18, fd19, fd20, fd21, fd22, fd23, fd24, fd25, fd26, fd27, fd28, fd29, fd30, fd31, fd32, fd33, fd34, fd35, fd36, fd37, fd38, fd39, fd40, fd41, fd42, fd43, fd44, fd45, fd46, fd47, fd48, fd49, fd50, fd51, fd52, P1, Pa, Pb, o1, -Int.reduceToNat, -Int32.reduceToNatClampNeg, il0, il1, il2, il3, il4, il5, il6, il7, il8, il9, il10, il11, il12, il13, il14, il15, il16, il17, il18, il19, il20, il21, il22, il23, il24, il25, il26, il27, il28, il29, il30, il31, il32, il35, il36, il38, il40, il42, il43, il44, il45, il46, il47, il48, il49, il50, il51, il52, il57, il59, il60, il63, il64, il75, il80, il95, il96, il97, il98, il99, il100, il120, il122, il123, il127, il128, il135, il167, il175, il225, il249, il250, il255, il256, il360, il370, il384, il600, il700, il740, il900, il940, il1024, il1600, il4800, il64000, il125000, il262143, il1000000000, iI_toInt, iI_add, iI_sub, iI_mul, iI_neg, iI_lt, iI_le, iI_eq, iI_n, iI_in, iI_div, iI_mod, iI_shm, iI_and1, iI_and7, iI_and63, iI_shr3, iI_shr6, rd_I, ob, Option.some.injEq, exists_eq_left', exists_eq_left, true_and, and_true, fqI, fqJ, eq_self, true_or, or_true, bP_0, bP_0i, npP, bP_1i, bP_b, not_true_eq_false, not_false_eq_true, false_implies, true_implies, implies_true, Classical.not_not, and_self, cP, cP', ite_n, ite_f]
      refine c_step C0 hG hT R hJ (by omega) hq A fun h1 f1 R1 => ?_
      rw [bP_0i]
      rw [runF] at k
      by_cases c : stW s q J (s (250 + 2 * j)) (s (250 + 2 * j + 1)) = 0
      · rw [ite_t c] at k
        rw [ite_f (fun p => p c)]
        have C1 := C0.gr f1.gr (fun a ha => by simp at ha; omega) (fun a ha => by simp at ha; omega) List.not_mem_nil
        exact ih (j + 1) (n + 1) _ h1 C1 R1 (stJ_I hG A hJ n0 c) (by omega) (by omega) (by omega) (by omega) fun h2 f2 R2 => k h2 (f1.trans f2) R2
      · rw [ite_f c] at k
        rw [ite_t c]
        exact k h1 f1 R1
  intro d j n J h C R hJ n0 nd j0 jd k
  exact ⟨d + 1, key d j n J h C R hJ n0 nd j0 jd k⟩
end TRIAL
