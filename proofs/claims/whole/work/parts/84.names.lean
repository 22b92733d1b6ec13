/-! a RAFT's NAME, a CELL, whether another LINE begins -/
noncomputable def fnd (N : Int → List Int) (c : Int) (l : List Int) : Int := fstI (fun i => N i = l) c.toNat 0
section NMS
variable {h h1 h2 h' h0 : AH} {tx ci tb la fr : Nat} {postV : AH → Prop} {post : AH → Int32 → Prop} {a b c d r x y n m p f fa q e k i lo hi v w : Int} {T s : Int → Int} {l : List Int} {N : Int → List Int}
theorem fnd_bd (hc : 0 ≤ c) : -1 ≤ fnd N c l ∧ fnd N c l < c ∨ (fnd N c l = -1) := by
  unfold fnd
  rcases fstI_spec (P := fun i => N i = l) c.toNat 0 (by omega) with u | u <;> omega
theorem c_raftNamed (H : LB h la) (hc : rd h la 5 = c) (cb : 0 ≤ c ∧ c ≤ 8) (vb : -2147483648 ≤ v ∧ v < 2147483648) (k : post h (iI (fstI (fun i => rd h (la + 4) i = v) c.toNat 0))) : wp_X1_raftNamed h la (iI v) post := by
  unfold wp_X1_raftNamed
  rw [show (0 : Int32) = iI 0 from rfl]
  refine (lp_fst (W := fun n i => wl_X1_raftNamed_2 post n h la (iI v) (iI i)) (P := fun i => rd h (la + 4) i = v) (lo := 0) (hi := c) (E := fun v => post h (iI v)) cb.1 (fun _ => id) (fun n i i0 i1 => ?_) (fun n => ?_)).mpr (by rw [show c - 0 = c by omega]; exact k)
  · show wb_X1_raftNamed_2 (wl_X1_raftNamed_2 post n) h la (iI v) (iI i) post ↔ _
    have b := rd_bd h (la + 4) i
    unfold wb_X1_raftNamed_2
    simp (disch := omega) only [LB.o0 H, LB.p6 H, LB.o4 H, LB.l4 H, fd0, fd1, fd2, fd3, fd4, fd5, fd6, fd7, fd8, fd9, fd10, fd11, fd12, fd13, fd14, fd15, fd16, fd17, fd18, fd19, fd20, fd21, fd22, fd23, fd24, fd25, fd26, fd27, fd28, fd29, fd30, fd31, fd32, fd33, fd34, fd35, fd36, fd37, fd38, fd39, fd40, fd41, fd42, fd43, fd44, fd45, fd46, fd47, fd48, fd49, fd50, fd51, fd52, hc, -Int.reduceToNat, -Int32.reduceToNatClampNeg, il0, il1, il2, il3, il4, il5, il6, il7, il8, il9, il10, il11, il12, il13, il14, il15, il16, il17, il18, il19, il20, il21, il22, il23, il24, il25, il26, il27, il28, il29, il30, il31, il32, il35, il36, il38, il40, il42, il43, il44, il45, il46, il47, il48, il49, il50, il51, il52, il57, il59, il60, il63, il64, il75, il80, il95, il96, il97, il98, il99, il100, il120, il122, il123, il127, il128, il135, il167, il175, il225, il249, il250, il255, il256, il360, il370, il384, il600, il700, il740, il900, il940, il1024, il1600, il4800, il64000, il125000, il262143, il1000000000, iI_toInt, iI_add, iI_sub, iI_mul, iI_neg, iI_lt, iI_le, iI_eq, iI_n, iI_in, iI_div, iI_mod, iI_shm, iI_and1, iI_and7, iI_and63, iI_shr3, iI_shr6, rd_I, ob, Option.some.injEq, exists_eq_left', exists_eq_left, true_and, and_true, fqI, fqJ, eq_self, true_or, or_true, bP_0, bP_0i, npP, bP_1i, bP_b, not_true_eq_false, not_false_eq_true, false_implies, true_implies, implies_true, Classical.not_not, and_self, cP, cP', ite_n, ite_f]
  · show wb_X1_raftNamed_2 (wl_X1_raftNamed_2 post n) h la (iI v) (iI c) post ↔ _
    unfold wb_X1_raftNamed_2
    simp (disch := omega) only [LB.o0 H, fd0, fd1, fd2, fd3, fd4, fd5, fd6, fd7, fd8, fd9, fd10, fd11, fd12, fd13, fd14, fd15, fd16, fd17, fd18, fd19, fd20, fd21, fd22, fd23, fd24, fd25, fd26, fd27, fd28, fd29, fd30, fd31, fd32, fd33, fd34, fd35, fd36, fd37, fd38, fd39, fd40, fd41, fd42, fd43, fd44, fd45, fd46, fd47, fd48, fd49, fd50, fd51, fd52, hc, -Int.reduceToNat, -Int32.reduceToNatClampNeg, il0, il1, il2, il3, il4, il5, il6, il7, il8, il9, il10, il11, il12, il13, il14, il15, il16, il17, il18, il19, il20, il21, il22, il23, il24, il25, il26, il27, il28, il29, il30, il31, il32, il35, il36, il38, il40, il42, il43, il44, il45, il46, il47, il48, il49, il50, il51, il52, il57, il59, il60, il63, il64, il75, il80, il95, il96, il97, il98, il99, il100, il120, il122, il123, il127, il128, il135, il167, il175, il225, il249, il250, il255, il256, il360, il370, il384, il600, il700, il740, il900, il940, il1024, il1600, il4800, il64000, il125000, il262143, il1000000000, iI_toInt, iI_add, iI_sub, iI_mul, iI_neg, iI_lt, iI_le, iI_eq, iI_n, iI_in, iI_div, iI_mod, iI_shm, iI_and1, iI_and7, iI_and63, iI_shr3, iI_shr6, rd_I, ob, Option.some.injEq, exists_eq_left', exists_eq_left, true_and, and_true, fqI, fqJ, eq_self, true_or, or_true, bP_0, bP_0i, npP, bP_1i, bP_b, not_true_eq_false, not_false_eq_true, false_implies, true_implies, implies_true, Classical.not_not, and_self, cP, cP', ite_n, ite_t]
def NmL (h : AH) (la : Nat) (c : Int) (N : Int → List Int) : Prop := ∀ r, 0 ≤ r → r < c → rd h (la + 4) r = w5 (N r) ∧ Ltr (N r) ∧ (N r).length ≤ 6
theorem fnd_eq (M : NmL h la c N) (hc : 0 ≤ c) (hl : Ltr l) : fstI (fun i => rd h (la + 4) i = w5 l) c.toNat 0 = fnd N c l := by
  unfold fnd
  refine fstI_c _ _ fun j j0 j1 => ?_
  obtain ⟨m1, m2, m3⟩ := M j j0 (by omega)
  rw [m1]
  exact ⟨w5_inj _ _ m2 hl, fun q => by rw [q]⟩
/-- a NAME that some RAFT has -/
def RaR (T : Int → Int) (n m : Int) (N : Int → List Int) (c f fa p f' fa' p' a' v : Int) : Prop := (f ≠ 0 ∧ f' = f ∧ fa' = fa ∧ v = 0) ∨ (f = 0 ∧ ¬ (tkK T n m p = 1 ∧ kwI (tkW T n m p) = -1) ∧ f' = 1 ∧ fa' = tkA T n m p ∧ v = 0) ∨ (f = 0 ∧ (tkK T n m p = 1 ∧ kwI (tkW T n m p) = -1) ∧ fnd N c (tkW T n m p) = -1 ∧ f' = 3 ∧ fa' = tkA T n m p ∧ v = 0) ∨ (f = 0 ∧ (tkK T n m p = 1 ∧ kwI (tkW T n m p) = -1) ∧ fnd N c (tkW T n m p) ≠ -1 ∧ f' = 0 ∧ fa' = fa ∧ p' = tkE T n m p ∧ a' = tkA T n m p ∧ v = fnd N c (tkW T n m p))
theorem RaR.rng {f' fa' p' a' : Int} (R : RaR T n m N c f fa p f' fa' p' a' v) (hc : 0 ≤ c) : 0 ≤ v ∧ (v = 0 ∨ v < c) ∧ (f' = 0 → v < c) := by
  rcases R with u | u | u | ⟨u1, u2, u3, u4, u5, u6, u7, u8⟩
  · omega
  · omega
  · omega
  · have := fnd_bd (N := N) (l := tkW T n m p) hc
    omega
theorem c_readRaft (R : RD T n m h tx ci tb f fa p a) (H : LB h la) (hc : rd h la 5 = c) (cb : 0 ≤ c ∧ c ≤ 8) (M : NmL h la c N) (hx : tx < la ∨ la + 20 < tx) (K : ∀ h' f' fa' p' a' v, tfF h h' tx → RD T n m h' tx ci tb f' fa' p' a' → RaR T n m N c f fa p f' fa' p' a' v → post h' (iI v)) : wp_X7_readRaft ci h tx la post := by
  unfold wp_X7_readRaft
  refine ⟨R.o, c_readName R fun g f1 fa1 p1 a1 v t Rg NR vb => ?_⟩
  have F := t.1
  have Hg : LB g la := LB.same F.1 F.2.2.1 F.2.2.2.1 F.aPe H
  have hcg : rd g la 5 = c := by rw [F.row (by simp; omega)]; exact hc
  have Mg : NmL g la c N := fun r r0 r1 => by rw [F.row (by simp; omega)]; exact M r r0 r1
  have k18 : ∀ {g2 : AH} {f2 fa2 p2 a2 w2 v2 : Int}, RD T n m g2 tx ci tb f2 fa2 p2 a2 → (f2 ≠ 0 → v2 = 0) → (f2 = 0 → w2 = v2) → post g2 (iI v2) → wb_X7_readRaft_18 ci g2 tx (iI w2) post := fun {g2} {f2 _ _ _ w2 v2} R2 u1 u2 u3 => by
    have O2 := R2.o
    have b := rd_bd g2 tx 10
    have sf := R2.sf
    unfold wb_X7_readRaft_18
    by_cases c0 : f2 = 0
    · rw [u2 c0]
      simp (disch := omega) only [O2, fd0, fd1, fd2, fd3, fd4, fd5, fd6, fd7, fd8, fd9, fd10, fd11, fd12, fd13, fd14, fd15, fd16, fd17, fd18, fd19, fd20, fd21, fd22, fd23, fd24, fd25, fd26, fd27, fd28, fd29, fd30, fd31, fd32, fd33, fd34, fd35, fd36, fd37, fd38, fd39, fd40, fd41, fd42, fd43, fd44, fd45, fd46, fd47, fd48, fd49, fd50, fd51, fd52, sf, c0, -Int.reduceToNat, -Int32.reduceToNatClampNeg, il0, il1, il2, il3, il4, il5, il6, il7, il8, il9, il10, il11, il12, il13, il14, il15, il16, il17, il18, il19, il20, il21, il22, il23, il24, il25, il26, il27, il28, il29, il30, il31, il32, il35, il36, il38, il40, il42, il43, il44, il45, il46, il47, il48, il49, il50, il51, il52, il57, il59, il60, il63, il64, il75, il80, il95, il96, il97, il98, il99, il100, il120, il122, il123, il127, il128, il135, il167, il175, il225, il249, il250, il255, il256, il360, il370, il384, il600, il700, il740, il900, il940, il1024, il1600, il4800, il64000, il125000, il262143, il1000000000, iI_toInt, iI_add, iI_sub, iI_mul, iI_neg, iI_lt, iI_le, iI_eq, iI_n, iI_in, iI_div, iI_mod, iI_shm, iI_and1, iI_and7, iI_and63, iI_shr3, iI_shr6, rd_I, ob, Option.some.injEq, exists_eq_left', exists_eq_left, true_and, and_true, fqI, fqJ, eq_self, true_or, or_true, bP_0, bP_0i, npP, bP_1i, bP_b, not_true_eq_false, not_false_eq_true, false_implies, true_implies, implies_true, Classical.not_not, and_self, cP, cP', ite_n, ite_t]
      exact u3
    · rw [u1 c0] at u3
      simp (disch := omega) only [O2, fd0, fd1, fd2, fd3, fd4, fd5, fd6, fd7, fd8, fd9, fd10, fd11, fd12, fd13, fd14, fd15, fd16, fd17, fd18, fd19, fd20, fd21, fd22, fd23, fd24, fd25, fd26, fd27, fd28, fd29, fd30, fd31, fd32, fd33, fd34, fd35, fd36, fd37, fd38, fd39, fd40, fd41, fd42, fd43, fd44, fd45, fd46, fd47, fd48, fd49, fd50, fd51, fd52, sf, -Int.reduceToNat, -Int32.reduceToNatClampNeg, il0, il1, il2, il3, il4, il5, il6, il7, il8, il9, il10, il11, il12, il13, il14, il15, il16, il17, il18, il19, il20, il21, il22, il23, il24, il25, il26, il27, il28, il29, il30, il31, il32, il35, il36, il38, il40, il42, il43, il44, il45, il46, il47, il48, il49, il50, il51, il52, il57, il59, il60, il63, il64, il75, il80, il95, il96, il97, il98, il99, il100, il120, il122, il123, il127, il128, il135, il167, il175, il225, il249, il250, il255, il256, il360, il370, il384, il600, il700, il740, il900, il940, il1024, il1600, il4800, il64000, il125000, il262143, il1000000000, iI_toInt, iI_add, iI_sub, iI_mul, iI_neg, iI_lt, iI_le, iI_eq, iI_n, iI_in, iI_div, iI_mod, iI_shm, iI_and1, iI_and7, iI_and63, iI_shr3, iI_shr6, rd_I, ob, Option.some.injEq, exists_eq_left', exists_eq_left, true_and, and_true, fqI, fqJ, eq_self, true_or, or_true, bP_0, bP_0i, npP, bP_1i, bP_b, not_true_eq_false, not_false_eq_true, false_implies, true_implies, implies_true, Classical.not_not, and_self, cP, cP', ite_n, ite_f]
      exact u3
  refine ⟨Hg.o0, c_raftNamed Hg hcg cb vb ?_⟩
  generalize hw : fstI (fun i => rd g (la + 4) i = v) c.toNat 0 = w
  have wb : -1 ≤ w ∧ w < 8 := by
    rcases fstI_spec (P := fun i => rd g (la + 4) i = v) c.toNat 0 (by omega) with u | u <;> omega
  simp (disch := omega) only [-Int.reduceToNat, -Int32.reduceToNatClampNeg, il0, il1, il2, il3, il4, il5, il6, il7, il8, il9, il10, il11, il12, il13, il14, il15, il16, il17, il18, il19, il20, il21, il22, il23, il24, il25, il26, il27, il28, il29, il30, il31, il32, il35, il36, il38, il40, il42, il43, il44, il45, il46, il47, il48, il49, il50, il51, il52, il57, il59, il60, il63, il64, il75, il80, il95, il96, il97, il98, il99, il100, il120, il122, il123, il127, il128, il135, il167, il175, il225, il249, il250, il255, il256, il360, il370, il384, il600, il700, il740, il900, il940, il1024, il1600, il4800, il64000, il125000, il262143, il1000000000, iI_toInt, iI_add, iI_sub, iI_mul, iI_neg, iI_lt, iI_le, iI_eq, iI_n, iI_in, iI_div, iI_mod, iI_shm, iI_and1, iI_and7, iI_and63, iI_shr3, iI_shr6, rd_I, ob, Option.some.injEq, exists_eq_left', exists_eq_left, true_and, and_true, fqI, fqJ, eq_self, true_or, or_true, bP_0, bP_0i, npP, bP_1i, bP_b, not_true_eq_false, not_false_eq_true, false_implies, true_implies, implies_true, Classical.not_not, and_self, cP, cP', ite_n, Rg.o]
  rcases NR with ⟨u1, u2, u3⟩ | ⟨u1, u2, u3, u4⟩ | ⟨u1, u2, u3, u4, u5, u6, u7, u8⟩
  · have k0 : ∀ w', wb_X7_readRaft_18 ci g tx (iI w') post := fun w' => k18 Rg (fun _ => rfl) (fun z => by omega) (K g f1 fa1 p1 a1 0 t Rg (Or.inl ⟨u1, u2, u3, rfl⟩))
    by_cases c1 : 0 ≤ w
    · rw [ite_t c1]; exact k0 w
    · rw [ite_f c1]; exact c_failF Rg (by omega) (k0 w)
  · have k0 : ∀ w', wb_X7_readRaft_18 ci g tx (iI w') post := fun w' => k18 Rg (fun _ => rfl) (fun z => by omega) (K g f1 fa1 p1 a1 0 t Rg (Or.inr (Or.inl ⟨u1, u2, u3, u4, rfl⟩)))
    by_cases c1 : 0 ≤ w
    · rw [ite_t c1]; exact k0 w
    · rw [ite_f c1]; exact c_failF Rg (by omega) (k0 w)
  · subst u4
    rw [u8, fnd_eq Mg cb.1 (tkW_ok R.hp u2).1] at hw
    by_cases c1 : 0 ≤ w
    · rw [ite_t c1]
      exact k18 Rg (fun z => absurd rfl z) (fun _ => rfl) (K g 0 fa1 p1 a1 w t Rg (Or.inr (Or.inr (Or.inr ⟨u1, ⟨u2, u3⟩, by omega, rfl, u5, u6, u7, hw.symm⟩))))
    · rw [ite_f c1]
      exact c_fail0 Rg (by omega) fun g2 t2 R2 => k18 R2 (fun _ => rfl) (fun z => by omega) (K g2 3 _ _ _ 0 (t.trans t2) R2 (Or.inr (Or.inr (Or.inl ⟨u1, ⟨u2, u3⟩, by omega, rfl, u7, rfl⟩))))
/-- a CELL -/
def CeR (T : Int → Int) (n m C Rw f fa p f' fa' p' a' v : Int) : Prop := ∃ f1 fa1 p1 a1 x y, NuR T n m f fa p 0 (C - 1) f1 fa1 p1 a1 x ∧ NuR T n m f1 fa1 p1 0 (Rw - 1) f' fa' p' a' y ∧ v = iteP (f' = 0) (8 * y + x) 0
theorem c_readCell (R : RD T n m h tx 2 tb f fa p a) (H : LB h fr) (hp : aP h tx 12 = some fr) (hC : rd h fr 0 = c) (hR : rd h fr 1 = d) (cb : 0 ≤ c ∧ c ≤ 8) (db : 0 ≤ d ∧ d ≤ 8) (hx : tx < fr ∨ fr + 20 < tx) (K : ∀ h' f' fa' p' a' v, tfF h h' tx → RD T n m h' tx 2 tb f' fa' p' a' → CeR T n m c d f fa p f' fa' p' a' v → post h' (iI v)) : wp_X2_readCell h tx post := by
  have O := R.o
  unfold wp_X2_readCell
  simp (disch := omega) only [O, hp, LB.o0 H, fd0, fd1, fd2, fd3, fd4, fd5, fd6, fd7, fd8, fd9, fd10, fd11, fd12, fd13, fd14, fd15, fd16, fd17, fd18, fd19, fd20, fd21, fd22, fd23, fd24, fd25, fd26, fd27, fd28, fd29, fd30, fd31, fd32, fd33, fd34, fd35, fd36, fd37, fd38, fd39, fd40, fd41, fd42, fd43, fd44, fd45, fd46, fd47, fd48, fd49, fd50, fd51, fd52, hC, -Int.reduceToNat, -Int32.reduceToNatClampNeg, il0, il1, il2, il3, il4, il5, il6, il7, il8, il9, il10, il11, il12, il13, il14, il15, il16, il17, il18, il19, il20, il21, il22, il23, il24, il25, il26, il27, il28, il29, il30, il31, il32, il35, il36, il38, il40, il42, il43, il44, il45, il46, il47, il48, il49, il50, il51, il52, il57, il59, il60, il63, il64, il75, il80, il95, il96, il97, il98, il99, il100, il120, il122, il123, il127, il128, il135, il167, il175, il225, il249, il250, il255, il256, il360, il370, il384, il600, il700, il740, il900, il940, il1024, il1600, il4800, il64000, il125000, il262143, il1000000000, iI_toInt, iI_add, iI_sub, iI_mul, iI_neg, iI_lt, iI_le, iI_eq, iI_n, iI_in, iI_div, iI_mod, iI_shm, iI_and1, iI_and7, iI_and63, iI_shr3, iI_shr6, rd_I, ob, Option.some.injEq, exists_eq_left', exists_eq_left, true_and, and_true, fqI, fqJ, eq_self, true_or, or_true, bP_0, bP_0i, npP, bP_1i, bP_b, not_true_eq_false, not_false_eq_true, false_implies, true_implies, implies_true, Classical.not_not, and_self]
  refine c_readNumber R (by omega) (by omega) fun g f1 fa1 p1 a1 x t Rg NR => ?_
  have F := t.1
  have Hg : LB g fr := LB.same F.1 F.2.2.1 F.2.2.2.1 F.aPe H
  have hRg : rd g fr 1 = d := by rw [F.row (by simp; omega)]; exact hR
  have pg : aP g tx 12 = some fr := by rw [F.aPe]; exact hp
  have Og := Rg.o
  have xr := NR.rng
  simp (disch := omega) only [Og, pg, LB.o0 Hg, fd0, fd1, fd2, fd3, fd4, fd5, fd6, fd7, fd8, fd9, fd10, fd11, fd12, fd13, fd14, fd15, fd16, fd17, fd18, fd19, fd20, fd21, fd22, fd23, fd24, fd25, fd26, fd27, fd28, fd29, fd30, fd31, fd32, fd33, fd34, fd35, fd36, fd37, fd38, fd39, fd40, fd41, fd42, fd43, fd44, fd45, fd46, fd47, fd48, fd49, fd50, fd51, fd52, hRg, -Int.reduceToNat, -Int32.reduceToNatClampNeg, il0, il1, il2, il3, il4, il5, il6, il7, il8, il9, il10, il11, il12, il13, il14, il15, il16, il17, il18, il19, il20, il21, il22, il23, il24, il25, il26, il27, il28, il29, il30, il31, il32, il35, il36, il38, il40, il42, il43, il44, il45, il46, il47, il48, il49, il50, il51, il52, il57, il59, il60, il63, il64, il75, il80, il95, il96, il97, il98, il99, il100, il120, il122, il123, il127, il128, il135, il167, il175, il225, il249, il250, il255, il256, il360, il370, il384, il600, il700, il740, il900, il940, il1024, il1600, il4800, il64000, il125000, il262143, il1000000000, iI_toInt, iI_add, iI_sub, iI_mul, iI_neg, iI_lt, iI_le, iI_eq, iI_n, iI_in, iI_div, iI_mod, iI_shm, iI_and1, iI_and7, iI_and63, iI_shr3, iI_shr6, rd_I, ob, Option.some.injEq, exists_eq_left', exists_eq_left, true_and, and_true, fqI, fqJ, eq_self, true_or, or_true, bP_0, bP_0i, npP, bP_1i, bP_b, not_true_eq_false, not_false_eq_true, false_implies, true_implies, implies_true, Classical.not_not, and_self]
  refine c_readNumber Rg (by omega) (by omega) fun g2 f2 fa2 p2 a2 y t2 R2 NR2 => ?_
  have yr := NR2.rng
  have O2 := R2.o
  have b := rd_bd g2 tx 10
  have sf := R2.sf
  have fin := K g2 f2 fa2 p2 a2 _ (t.trans t2) R2 ⟨f1, fa1, p1, a1, x, y, NR, NR2, rfl⟩
  by_cases c0 : f2 = 0
  · rw [ite_t c0] at fin
    simp (disch := omega) only [O2, fd0, fd1, fd2, fd3, fd4, fd5, fd6, fd7, fd8, fd9, fd10, fd11, fd12, fd13, fd14, fd15, fd16, fd17, fd18, fd19, fd20, fd21, fd22, fd23, fd24, fd25, fd26, fd27, fd28, fd29, fd30, fd31, fd32, fd33, fd34, fd35, fd36, fd37, fd38, fd39, fd40, fd41, fd42, fd43, fd44, fd45, fd46, fd47, fd48, fd49, fd50, fd51, fd52, sf, c0, -Int.reduceToNat, -Int32.reduceToNatClampNeg, il0, il1, il2, il3, il4, il5, il6, il7, il8, il9, il10, il11, il12, il13, il14, il15, il16, il17, il18, il19, il20, il21, il22, il23, il24, il25, il26, il27, il28, il29, il30, il31, il32, il35, il36, il38, il40, il42, il43, il44, il45, il46, il47, il48, il49, il50, il51, il52, il57, il59, il60, il63, il64, il75, il80, il95, il96, il97, il98, il99, il100, il120, il122, il123, il127, il128, il135, il167, il175, il225, il249, il250, il255, il256, il360, il370, il384, il600, il700, il740, il900, il940, il1024, il1600, il4800, il64000, il125000, il262143, il1000000000, iI_toInt, iI_add, iI_sub, iI_mul, iI_neg, iI_lt, iI_le, iI_eq, iI_n, iI_in, iI_div, iI_mod, iI_shm, iI_and1, iI_and7, iI_and63, iI_shr3, iI_shr6, rd_I, ob, Option.some.injEq, exists_eq_left', exists_eq_left, true_and, and_true, fqI, fqJ, eq_self, true_or, or_true, bP_0, bP_0i, npP, bP_1i, bP_b, not_true_eq_false, not_false_eq_true, false_implies, true_implies, implies_true, Classical.not_not, and_self, cP, cP', ite_n, ite_t]
    exact fin
  · rw [ite_f c0] at fin
    simp (disch := omega) only [O2, fd0, fd1, fd2, fd3, fd4, fd5, fd6, fd7, fd8, fd9, fd10, fd11, fd12, fd13, fd14, fd15, fd16, fd17, fd18, fd19, fd20, fd21, fd22, fd23, fd24, fd25, fd26, fd27, fd28, fd29, fd30, fd31, fd32, fd33, fd34, fd35, fd36, fd37, fd38, fd39, fd40, fd41, fd42, fd43, fd44, fd45, fd46, fd47, fd48, fd49, fd50, fd51, fd52, sf, -Int.reduceToNat, -Int32.reduceToNatClampNeg, il0, il1, il2, il3, il4, il5, il6, il7, il8, il9, il10, il11, il12, il13, il14, il15, il16, il17, il18, il19, il20, il21, il22, il23, il24, il25, il26, il27, il28, il29, il30, il31, il32, il35, il36, il38, il40, il42, il43, il44, il45, il46, il47, il48, il49, il50, il51, il52, il57, il59, il60, il63, il64, il75, il80, il95, il96, il97, il98, il99, il100, il120, il122, il123, il127, il128, il135, il167, il175, il225, il249, il250, il255, il256, il360, il370, il384, il600, il700, il740, il900, il940, il1024, il1600, il4800, il64000, il125000, il262143, il1000000000, iI_toInt, iI_add, iI_sub, iI_mul, iI_neg, iI_lt, iI_le, iI_eq, iI_n, iI_in, iI_div, iI_mod, iI_shm, iI_and1, iI_and7, iI_and63, iI_shr3, iI_shr6, rd_I, ob, Option.some.injEq, exists_eq_left', exists_eq_left, true_and, and_true, fqI, fqJ, eq_self, true_or, or_true, bP_0, bP_0i, npP, bP_1i, bP_b, not_true_eq_false, not_false_eq_true, false_implies, true_implies, implies_true, Classical.not_not, and_self, cP, cP', ite_n, ite_f]
    exact fin
/-- whether it goes on: the TOKEN is there -/
theorem c_goesOn (R : RD T n m h tx ci tb f fa p a) (K0 : f ≠ 0 → post h (iI 0)) (K1 : f = 0 → tkK T n m p = 4 → ∀ h' f' fa' p' a', tfF h h' tx → RD T n m h' tx ci tb f' fa' p' a' → (n ≤ m → f' = 0) → (m < n → f' = 1 ∧ fa' = tkA T n m p) → post h' (iI 0)) (K2 : f = 0 → tkK T n m p ≠ 4 → ∀ h', tfF h h' tx → RD T n m h' tx ci tb 0 fa (tkE T n m p) (tkA T n m p) → AdO T n m p h h' tx → post h' (iI 1)) : wp_X7_goesOn ci h tx post := by
  have O := R.o
  have k35 : ∀ {g2 : AH} {f2 fa2 p2 a2 : Int}, RD T n m g2 tx ci tb f2 fa2 p2 a2 → (f2 ≠ 0 ∨ rd g2 tx 6 = 4 → post g2 (iI 0)) → (f2 = 0 → rd g2 tx 6 ≠ 4 → post g2 (iI 1)) → wb_X7_goesOn_35 ci g2 tx post := fun {g2} {f2 _ _ _} R2 u1 u2 => by
    have O2 := R2.o
    have b := rd_bd g2 tx 10
    have b6 := rd_bd g2 tx 6
    have sf := R2.sf
    unfold wb_X7_goesOn_35
    simp (disch := omega) only [O2, fd0, fd1, fd2, fd3, fd4, fd5, fd6, fd7, fd8, fd9, fd10, fd11, fd12, fd13, fd14, fd15, fd16, fd17, fd18, fd19, fd20, fd21, fd22, fd23, fd24, fd25, fd26, fd27, fd28, fd29, fd30, fd31, fd32, fd33, fd34, fd35, fd36, fd37, fd38, fd39, fd40, fd41, fd42, fd43, fd44, fd45, fd46, fd47, fd48, fd49, fd50, fd51, fd52, sf, -Int.reduceToNat, -Int32.reduceToNatClampNeg, il0, il1, il2, il3, il4, il5, il6, il7, il8, il9, il10, il11, il12, il13, il14, il15, il16, il17, il18, il19, il20, il21, il22, il23, il24, il25, il26, il27, il28, il29, il30, il31, il32, il35, il36, il38, il40, il42, il43, il44, il45, il46, il47, il48, il49, il50, il51, il52, il57, il59, il60, il63, il64, il75, il80, il95, il96, il97, il98, il99, il100, il120, il122, il123, il127, il128, il135, il167, il175, il225, il249, il250, il255, il256, il360, il370, il384, il600, il700, il740, il900, il940, il1024, il1600, il4800, il64000, il125000, il262143, il1000000000, iI_toInt, iI_add, iI_sub, iI_mul, iI_neg, iI_lt, iI_le, iI_eq, iI_n, iI_in, iI_div, iI_mod, iI_shm, iI_and1, iI_and7, iI_and63, iI_shr3, iI_shr6, rd_I, ob, Option.some.injEq, exists_eq_left', exists_eq_left, true_and, and_true, fqI, fqJ, eq_self, true_or, or_true, bP_0, bP_0i, npP, bP_1i, bP_b, not_true_eq_false, not_false_eq_true, false_implies, true_implies, implies_true, Classical.not_not, and_self, cP, cP', ite_n]
    by_cases c0 : f2 = 0
    · rw [ite_t c0]
      by_cases c1 : rd g2 tx 6 = 4
      · rw [ite_t c1]; exact u1 (Or.inr c1)
      · rw [ite_f c1]; exact u2 c0 c1
    · rw [ite_f c0]; exact u1 (Or.inl c0)
  unfold wp_X7_goesOn
  refine ⟨O, ?_⟩
  by_cases hf : f = 0
  · subst hf
    refine c_adv0 R fun g t Rg A => ?_
    have A' := A
    obtain ⟨t0, a4, a5, a6, a7, a8, a9⟩ := A
    have Og := Rg.o
    have sf := Rg.sf
    have q2 := Rg.s2
    have q3 := Rg.s3
    have bk := tk_bd (T := T) R.hp R.hm.1
    have hp := R.hp
    have hn := R.hn
    have hm := R.hm
    simp (disch := omega) only [Og, fd0, fd1, fd2, fd3, fd4, fd5, fd6, fd7, fd8, fd9, fd10, fd11, fd12, fd13, fd14, fd15, fd16, fd17, fd18, fd19, fd20, fd21, fd22, fd23, fd24, fd25, fd26, fd27, fd28, fd29, fd30, fd31, fd32, fd33, fd34, fd35, fd36, fd37, fd38, fd39, fd40, fd41, fd42, fd43, fd44, fd45, fd46, fd47, fd48, fd49, fd50, fd51, fd52, a6, sf, q2, q3, -Int.reduceToNat, -Int32.reduceToNatClampNeg, il0, il1, il2, il3, il4, il5, il6, il7, il8, il9, il10, il11, il12, il13, il14, il15, il16, il17, il18, il19, il20, il21, il22, il23, il24, il25, il26, il27, il28, il29, il30, il31, il32, il35, il36, il38, il40, il42, il43, il44, il45, il46, il47, il48, il49, il50, il51, il52, il57, il59, il60, il63, il64, il75, il80, il95, il96, il97, il98, il99, il100, il120, il122, il123, il127, il128, il135, il167, il175, il225, il249, il250, il255, il256, il360, il370, il384, il600, il700, il740, il900, il940, il1024, il1600, il4800, il64000, il125000, il262143, il1000000000, iI_toInt, iI_add, iI_sub, iI_mul, iI_neg, iI_lt, iI_le, iI_eq, iI_n, iI_in, iI_div, iI_mod, iI_shm, iI_and1, iI_and7, iI_and63, iI_shr3, iI_shr6, rd_I, ob, Option.some.injEq, exists_eq_left', exists_eq_left, true_and, and_true, fqI, fqJ, eq_self, true_or, or_true, bP_0, bP_0i, npP, bP_1i, bP_b, not_true_eq_false, not_false_eq_true, false_implies, true_implies, implies_true, Classical.not_not, and_self, cP, cP', ite_n, ite_t]
    by_cases ck : tkK T n m p = 4
    · rw [ite_t ck]
      by_cases cn : n ≤ m
      · rw [ite_t cn]
        exact k35 Rg (fun _ => K1 rfl ck g 0 _ _ _ t Rg (fun _ => rfl) (fun z => by omega)) (fun _ z => absurd (a6.trans ck) z)
      · rw [ite_f cn]
        exact c_fail0 Rg (by omega) fun g2 t2 R2 => k35 R2 (fun _ => K1 rfl ck g2 1 _ _ _ (t.trans t2) R2 (fun z => by omega) (fun _ => ⟨rfl, rfl⟩)) (fun z => by omega)
    · rw [ite_f ck]
      exact k35 Rg (fun z => by omega) (fun _ _ => K2 rfl ck g t Rg A')
  · refine c_advF R hf ?_
    have b := rd_bd h tx 10
    have sf := R.sf
    simp (disch := omega) only [O, fd0, fd1, fd2, fd3, fd4, fd5, fd6, fd7, fd8, fd9, fd10, fd11, fd12, fd13, fd14, fd15, fd16, fd17, fd18, fd19, fd20, fd21, fd22, fd23, fd24, fd25, fd26, fd27, fd28, fd29, fd30, fd31, fd32, fd33, fd34, fd35, fd36, fd37, fd38, fd39, fd40, fd41, fd42, fd43, fd44, fd45, fd46, fd47, fd48, fd49, fd50, fd51, fd52, sf, -Int.reduceToNat, -Int32.reduceToNatClampNeg, il0, il1, il2, il3, il4, il5, il6, il7, il8, il9, il10, il11, il12, il13, il14, il15, il16, il17, il18, il19, il20, il21, il22, il23, il24, il25, il26, il27, il28, il29, il30, il31, il32, il35, il36, il38, il40, il42, il43, il44, il45, il46, il47, il48, il49, il50, il51, il52, il57, il59, il60, il63, il64, il75, il80, il95, il96, il97, il98, il99, il100, il120, il122, il123, il127, il128, il135, il167, il175, il225, il249, il250, il255, il256, il360, il370, il384, il600, il700, il740, il900, il940, il1024, il1600, il4800, il64000, il125000, il262143, il1000000000, iI_toInt, iI_add, iI_sub, iI_mul, iI_neg, iI_lt, iI_le, iI_eq, iI_n, iI_in, iI_div, iI_mod, iI_shm, iI_and1, iI_and7, iI_and63, iI_shr3, iI_shr6, rd_I, ob, Option.some.injEq, exists_eq_left', exists_eq_left, true_and, and_true, fqI, fqJ, eq_self, true_or, or_true, bP_0, bP_0i, npP, bP_1i, bP_b, not_true_eq_false, not_false_eq_true, false_implies, true_implies, implies_true, Classical.not_not, and_self, cP, cP', ite_n, ite_f]
    exact k35 R (fun _ => K0 hf) (fun z => absurd z hf)
end NMS
