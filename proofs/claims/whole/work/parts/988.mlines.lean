/-! the model's LINE, and all of them -/
section MLI
variable {h h1 h2 h' h0 g : AH} {postV : AH → Prop} {post : AH → Int32 → Prop} {a b c d r x y n m p p0 q e k i j v w lo hi td qb but wh ra rb : Int} {T s : Int → Int} {l l' : List Int} {N : Int → List Int} {R : RT} {z : Int64}
theorem li_0 : liS T n m 0 s N td a p = sRow T n m s N td a p := by
  unfold liS
  rw [ite_t rfl]
theorem li_1 : liS T n m 1 s N td a p = sTide T n m s N td p := by
  unfold liS
  rw [ite_f (by omega), ite_t rfl]
theorem li_2 : liS T n m 2 s N td a p = sRaft T n m s N td a p := by
  unfold liS
  rw [ite_f (by omega), ite_f (by omega), ite_t rfl]
theorem li_3 : liS T n m 3 s N td a p = sPole T n m s N td a p := by
  unfold liS
  rw [ite_f (by omega), ite_f (by omega), ite_f (by omega), ite_t rfl]
theorem li_4 : liS T n m 4 s N td a p = sRope T n m s N td a p := by
  unfold liS
  rw [ite_f (by omega), ite_f (by omega), ite_f (by omega), ite_f (by omega), ite_t rfl]
theorem li_5 : liS T n m 5 s N td a p = sMoor T n m s N td p := by
  unfold liS
  rw [ite_f (by omega), ite_f (by omega), ite_f (by omega), ite_f (by omega), ite_f (by omega), ite_t rfl]
theorem li_6 : liS T n m 6 s N td a p = sPair T n m s N td 0 a p := by
  unfold liS
  rw [ite_f (by omega), ite_f (by omega), ite_f (by omega), ite_f (by omega), ite_f (by omega), ite_f (by omega), ite_t rfl]
theorem li_7 : liS T n m 7 s N td a p = sPair T n m s N td 1 a p := by
  unfold liS
  rw [ite_f (by omega), ite_f (by omega), ite_f (by omega), ite_f (by omega), ite_f (by omega), ite_f (by omega), ite_f (by omega), ite_t rfl]
theorem li_8 : liS T n m 8 s N td a p = sSun T n m s N td a p := by
  unfold liS
  rw [ite_f (by omega), ite_f (by omega), ite_f (by omega), ite_f (by omega), ite_f (by omega), ite_f (by omega), ite_f (by omega), ite_f (by omega), ite_t rfl]
theorem li_9 : liS T n m 9 s N td a p = sLies T n m s N td a p := by
  unfold liS
  rw [ite_f (by omega), ite_f (by omega), ite_f (by omega), ite_f (by omega), ite_f (by omega), ite_f (by omega), ite_f (by omega), ite_f (by omega), ite_f (by omega), ite_t rfl]
theorem li_10 : liS T n m 10 s N td a p = sSqua T n m s N td a p := by
  unfold liS
  rw [ite_f (by omega), ite_f (by omega), ite_f (by omega), ite_f (by omega), ite_f (by omega), ite_f (by omega), ite_f (by omega), ite_f (by omega), ite_f (by omega), ite_f (by omega), ite_t rfl]
theorem li_x (h : ¬ (0 ≤ w ∧ w ≤ 10)) : liS T n m w s N td a p = bdR 1 a := by
  unfold liS
  rw [ite_f (by omega), ite_f (by omega), ite_f (by omega), ite_f (by omega), ite_f (by omega), ite_f (by omega), ite_f (by omega), ite_f (by omega), ite_f (by omega), ite_f (by omega), ite_f (by omega)]
theorem wd_k (hi : 0 ≤ i) (u : wdI T n m p = i) : tkK T n m p = 1 := by
  unfold wdI at u
  by_cases c : tkK T n m p = 1
  · exact c
  · rw [ite_f c] at u; omega
theorem pair_w (hw : wh < 2) : sPair T n m s N td wh a p = iteP (s 5 < 10) (raS T n m N (s 2) p fun ra q1 => iteP (wh < 2) (raS T n m N (s 2) q1 fun rb q2 => iteP (ra = rb) (bdR 3 (tkA T n m q1)) (nuS T n m 1 99 q2 fun v q3 => okR (wanU s wh ra rb 0 v) N td q3)) (iteP (wh = 2) (siS T n m q1 fun sd q2 => nuS T n m 1 99 q2 fun v q3 => okR (wanU s 2 ra sd 0 v) N td q3) (ceS T n m (s 0) (s 1) q1 fun x y _ q2 => nuS T n m 1 99 q2 fun v q3 => okR (wanU s 3 ra x y v) N td q3))) (bdR 4 a) := by
  unfold sPair
  congr 2
  funext ra q1
  exact (ite_t hw).symm
theorem sun_w : sSun T n m s N td a p = iteP (s 5 < 10) (raS T n m N (s 2) p fun ra q1 => iteP ((2 : Int) < 2) (raS T n m N (s 2) q1 fun rb q2 => iteP (ra = rb) (bdR 3 (tkA T n m q1)) (nuS T n m 1 99 q2 fun v q3 => okR (wanU s 2 ra rb 0 v) N td q3)) (iteP ((2 : Int) = 2) (siS T n m q1 fun sd q2 => nuS T n m 1 99 q2 fun v q3 => okR (wanU s 2 ra sd 0 v) N td q3) (ceS T n m (s 0) (s 1) q1 fun x y _ q2 => nuS T n m 1 99 q2 fun v q3 => okR (wanU s 3 ra x y v) N td q3))) (bdR 4 a) := by
  unfold sSun
  congr 2
  funext ra q1
  exact ((ite_f (by omega)).trans (ite_t rfl)).symm
theorem lies_w : sLies T n m s N td a p = iteP (s 5 < 10) (raS T n m N (s 2) p fun ra q1 => iteP ((3 : Int) < 2) (raS T n m N (s 2) q1 fun rb q2 => iteP (ra = rb) (bdR 3 (tkA T n m q1)) (nuS T n m 1 99 q2 fun v q3 => okR (wanU s 3 ra rb 0 v) N td q3)) (iteP ((3 : Int) = 2) (siS T n m q1 fun sd q2 => nuS T n m 1 99 q2 fun v q3 => okR (wanU s 2 ra sd 0 v) N td q3) (ceS T n m (s 0) (s 1) q1 fun x y _ q2 => nuS T n m 1 99 q2 fun v q3 => okR (wanU s 3 ra x y v) N td q3))) (bdR 4 a) := by
  unfold sLies
  congr 2
  funext ra q1
  exact ((ite_f (by omega)).trans (ite_f (by omega))).symm
theorem wd_b : -1 ≤ wdI T n m p ∧ wdI T n m p < 18 := by
  unfold wdI
  by_cases c : tkK T n m p = 1
  · rw [ite_t c]; exact kwI_bd
  · rw [ite_f c]; omega
theorem l_line (Q : LX T n m h0 h p s N td (sqB s)) (Z : Z24 h0) (B : BA s td) (e : R = liS T n m (wdI T n m p) s N td (tkA T n m p) (tkE T n m p)) (KF : ∀ h', mF h0 h' → Flt h' R → post h' (iI 0)) (KS : ∀ h' s' N' td' q, LX T n m h0 h' q s' N' td' (sqB s') → R = okR s' N' td' q → post h' (iI 1)) : wp_X12_line h 92 post := by
  have M := Q.X.M
  unfold wp_X12_line
  exact ⟨M.o0, m_isWord Q.X (i := 0) (by omega) (by omega) (by decide) (fun u => ⟨fun v => absurd v i10, fun _ => ⟨M.o0, l_row Q (wd_k (by omega) u) B (by rw [u] at e; exact e.trans li_0) (fun g F E => ⟨Or.inl rfl, KF g F E⟩) (fun g s' N' td' q L E => ⟨Or.inr rfl, KS g s' N' td' q L E⟩)⟩⟩) fun u0 => ⟨fun _ => ⟨M.o0, m_isWord Q.X (i := 1) (by omega) (by omega) (by decide) (fun u => ⟨fun v => absurd v i10, fun _ => ⟨M.o0, l_tide Q (wd_k (by omega) u) B (by rw [u] at e; exact e.trans li_1) (fun g F E => ⟨Or.inl rfl, KF g F E⟩) (fun g s' N' td' q L E => ⟨Or.inr rfl, KS g s' N' td' q L E⟩)⟩⟩) fun u1 => ⟨fun _ => ⟨M.o0, m_isWord Q.X (i := 2) (by omega) (by omega) (by decide) (fun u => ⟨fun v => absurd v i10, fun _ => ⟨M.o0, l_raft Q (wd_k (by omega) u) B (by rw [u] at e; exact e.trans li_2) (fun g F E => ⟨Or.inl rfl, KF g F E⟩) (fun g s' N' td' q L E => ⟨Or.inr rfl, KS g s' N' td' q L E⟩)⟩⟩) fun u2 => ⟨fun _ => ⟨M.o0, m_isWord Q.X (i := 3) (by omega) (by omega) (by decide) (fun u => ⟨fun v => absurd v i10, fun _ => ⟨M.o0, l_pole Q (wd_k (by omega) u) B (by rw [u] at e; exact e.trans li_3) (fun g F E => ⟨Or.inl rfl, KF g F E⟩) (fun g s' N' td' q L E => ⟨Or.inr rfl, KS g s' N' td' q L E⟩)⟩⟩) fun u3 => ⟨fun _ => ⟨M.o0, m_isWord Q.X (i := 4) (by omega) (by omega) (by decide) (fun u => ⟨fun v => absurd v i10, fun _ => ⟨M.o0, l_rope Q Z (wd_k (by omega) u) B (by rw [u] at e; exact e.trans li_4) (fun g F E => ⟨Or.inl rfl, KF g F E⟩) (fun g s' N' td' q L E => ⟨Or.inr rfl, KS g s' N' td' q L E⟩)⟩⟩) fun u4 => ⟨fun _ => ⟨M.o0, m_isWord Q.X (i := 5) (by omega) (by omega) (by decide) (fun u => ⟨fun v => absurd v i10, fun _ => ⟨M.o0, l_moor Q (wd_k (by omega) u) B (by rw [u] at e; exact e.trans li_5) (fun g F E => ⟨Or.inl rfl, KF g F E⟩) (fun g s' N' td' q L E => ⟨Or.inr rfl, KS g s' N' td' q L E⟩)⟩⟩) fun u5 => ⟨fun _ => ⟨M.o0, m_isWord Q.X (i := 10) (by omega) (by omega) (by decide) (fun u => ⟨fun v => absurd v i10, fun _ => ⟨M.o0, l_square Q (wd_k (by omega) u) B (by rw [u] at e; exact e.trans li_10) (fun g F E => ⟨Or.inl rfl, KF g F E⟩) (fun g s' N' td' q L E => ⟨Or.inr rfl, KS g s' N' td' q L E⟩)⟩⟩) fun u10 => ⟨fun _ => ⟨M.o0, m_isWord Q.X (i := 6) (by omega) (by omega) (by decide) (fun u => ⟨fun v => absurd v i10, fun _ => ⟨M.o0, l_want (wh := 0) Q (wd_k (by omega) u) B (by omega) (by rw [u] at e; exact (e.trans li_6).trans (pair_w (by omega))) (fun g F E => ⟨Or.inl rfl, KF g F E⟩) (fun g s' N' td' q L E => ⟨Or.inr rfl, KS g s' N' td' q L E⟩)⟩⟩) fun u6 => ⟨fun _ => ⟨M.o0, m_isWord Q.X (i := 7) (by omega) (by omega) (by decide) (fun u => ⟨fun v => absurd v i10, fun _ => ⟨M.o0, l_want (wh := 1) Q (wd_k (by omega) u) B (by omega) (by rw [u] at e; exact (e.trans li_7).trans (pair_w (by omega))) (fun g F E => ⟨Or.inl rfl, KF g F E⟩) (fun g s' N' td' q L E => ⟨Or.inr rfl, KS g s' N' td' q L E⟩)⟩⟩) fun u7 => ⟨fun _ => ⟨M.o0, m_isWord Q.X (i := 8) (by omega) (by omega) (by decide) (fun u => ⟨fun v => absurd v i10, fun _ => ⟨M.o0, l_want (wh := 2) Q (wd_k (by omega) u) B (by omega) (by rw [u] at e; exact (e.trans li_8).trans (sun_w)) (fun g F E => ⟨Or.inl rfl, KF g F E⟩) (fun g s' N' td' q L E => ⟨Or.inr rfl, KS g s' N' td' q L E⟩)⟩⟩) fun u8 => ⟨fun _ => ⟨M.o0, m_isWord Q.X (i := 9) (by omega) (by omega) (by decide) (fun u => ⟨fun v => absurd v i10, fun _ => ⟨M.o0, l_want (wh := 3) Q (wd_k (by omega) u) B (by omega) (by rw [u] at e; exact (e.trans li_9).trans (lies_w)) (fun g F E => ⟨Or.inl rfl, KF g F E⟩) (fun g s' N' td' q L E => ⟨Or.inr rfl, KS g s' N' td' q L E⟩)⟩⟩) fun u9 => ⟨fun _ => ⟨M.o0, Q.bad (k := 1) (by omega) (e.trans (li_x (by omega))) (fun g F E => ⟨Or.inl rfl, KF g F E⟩)⟩, fun v => absurd rfl v⟩⟩, fun v => absurd rfl v⟩⟩, fun v => absurd rfl v⟩⟩, fun v => absurd rfl v⟩⟩, fun v => absurd rfl v⟩⟩, fun v => absurd rfl v⟩⟩, fun v => absurd rfl v⟩⟩, fun v => absurd rfl v⟩⟩, fun v => absurd rfl v⟩⟩, fun v => absurd rfl v⟩⟩, fun v => absurd rfl v⟩⟩
theorem LX.base (Q : LX T n m h0 h p s N td qb) : LX T n m h h p s N td qb := by
  obtain ⟨X0, rw0, F0, hh, nm, t2, sq, ft⟩ := Q
  exact ⟨X0, rw0, mF.refl h, hh, nm, t2, sq, ft⟩
/-- what the reading of a whole text changes in the model -/
def mL (h h' : AH) : Prop := Fr [92, 95, 99, 100] [92, 97] [] h h' ∧ (∀ j, j < 4 ∨ (5 ≤ j ∧ j ≤ 10) ∨ j = 17 ∨ 24 ≤ j → rd h' 92 j = rd h 92 j) ∧ (∀ j : Nat, j < 8 → aJ h' 97 j = aJ h 97 j) ∧ ∀ i, 24 ≤ i → rd h' 99 i = rd h 99 i ∧ rd h' 100 i = rd h 100 i
theorem mL.trans (u : mL h h1) (v : mL h1 h2) : mL h h2 := ⟨u.1.trans v.1, fun j hj => (v.2.1 j hj).trans (u.2.1 j hj), fun j hj => (v.2.2.1 j hj).trans (u.2.2.1 j hj), fun i hi => ⟨(v.2.2.2 i hi).1.trans (u.2.2.2 i hi).1, (v.2.2.2 i hi).2.trans (u.2.2.2 i hi).2⟩⟩
theorem mF.ml (u : mF h h') : mL h h' := ⟨u.1, fun j hj => u.2.1 j (by omega), u.2.2⟩
theorem mL.z24 (u : mL h h') (Z : Z24 h) : Z24 h' := ⟨fun i hi => (u.2.2.2 i hi).1.trans (Z.1 i hi), fun i hi => (u.2.2.2 i hi).2.trans (Z.2 i hi)⟩
theorem m_lines {R0 : RT} (KF : ∀ h' (R : RT), mL h0 h' → R = R0 → Flt h' R → (-2147483648 ≤ R.2.1 ∧ R.2.1 < 2147483648) → post h' (iI (-1 - R.2.1))) (KS : ∀ h' s N td p c, LX T n m h' h' p s N td (sqB s) → BA s td → mL h0 h' → rd h' 92 21 = c → R0 = okR s N td c → ∃ k, wl_X12_lagoon_85 post k h' 92 (iI 0)) :
    ∀ (dd : Nat) (h : AH) (s : Int → Int) (N : Int → List Int) (td p c : Int), LX T n m h h p s N td (sqB s) → Z24 h → BA s td → NmK s N → mL h0 h → n - p < dd → rd h 92 21 = c → 0 ≤ c → c ≤ p → R0 = lsS T n m dd s N td p c → wl_X12_lagoon_40 post (dd + 1) h 92 := by
  intro dd
  induction dd with
  | zero =>
    intro h s N td p c Q Z B NK ML hd
    have := Q.X.hp
    omega
  | succ dd ih =>
    intro h s N td p c Q Z B NK ML hd h21 c0 cp E
    have M := Q.X.M
    have b11 := rd_bd h 92 11
    have hp := Q.X.hp
    have hn := Q.X.hn
    have hm := Q.X.hm
    have tb := Q.X.bd
    show wb_X12_lagoon_40 (wl_X12_lagoon_40 post (dd + 1)) h 92 post
    rw [lsS] at E
    have badE : ∀ (R : RT) g, R0 = R → (-2147483648 ≤ R.2.1 ∧ R.2.1 < 2147483648) → mF h g → Flt g R → wb_X12_lagoon_63 g 92 post := by
      intro R g eR bR F Fl
      have Mg : MSh g := M.gr (F.1.gr)
      have e16 := Fl.2.2
      have := KF g R (ML.trans F.ml) eR.symm Fl bR
      unfold wb_X12_lagoon_63
      simp (disch := omega) only [MSh.o0 Mg, MSh.p1 Mg, MSh.o1 Mg, MSh.l1 Mg, MSh.p6 Mg, MSh.o2 Mg, MSh.l2 Mg, MSh.p7 Mg, MSh.o3 Mg, MSh.l3 Mg, MSh.p8 Mg, MSh.o4 Mg, MSh.l4 Mg, MSh.p9 Mg, MSh.o5 Mg, MSh.l5 Mg, MSh.p10 Mg, MSh.o6 Mg, MSh.l6 Mg, MSh.p24 Mg, MSh.o7 Mg, MSh.l7 Mg, MSh.p25 Mg, MSh.o8 Mg, MSh.l8 Mg, MSh.p26 Mg, MSh.o9 Mg, MSh.l9 Mg, MSh.p32 Mg, MSh.o10 Mg, MSh.l10 Mg, MSh.p33 Mg, MSh.o11 Mg, MSh.l11 Mg, MSh.p35 Mg, MSh.o12 Mg, MSh.l12 Mg, MSh.p36 Mg, MSh.o13 Mg, MSh.l13 Mg, MSh.p37 Mg, MSh.o14 Mg, MSh.l14 Mg, MSh.p38 Mg, MSh.o15 Mg, MSh.l15 Mg, MSh.p39 Mg, MSh.o16 Mg, MSh.l16 Mg, MSh.p42 Mg, MSh.o17 Mg, MSh.l17 Mg, MSh.p43 Mg, MSh.o18 Mg, MSh.l18 Mg, MSh.p44 Mg, MSh.o19 Mg, MSh.l19 Mg, MSh.p45 Mg, MSh.o20 Mg, MSh.l20 Mg, MSh.p46 Mg, MSh.o21 Mg, MSh.l21 Mg, MSh.p47 Mg, MSh.o22 Mg, MSh.l22 Mg, MSh.p50 Mg, MSh.o23 Mg, MSh.l23 Mg, MSh.p51 Mg, MSh.o24 Mg, MSh.l24 Mg, MSh.p52 Mg, MSh.o25 Mg, MSh.l25 Mg, fd0, fd1, fd2, fd3, fd4, fd5, fd6, fd7, fd8, fd9, fd10, fd11, fd12, fd13, fd14, fd15, fd16, fd17, fd18, fd19, fd20, fd21, fd22, fd23, fd24, fd25, fd26, fd27, fd28, fd29, fd30, fd31, fd32, fd33, fd34, fd35, fd36, fd37, fd38, fd39, fd40, fd41, fd42, fd43, fd44, fd45, fd46, fd47, fd48, fd49, fd50, fd51, fd52, e16, -Int.reduceToNat, -Int32.reduceToNatClampNeg, il0, il1, il2, il3, il4, il5, il6, il7, il8, il9, il10, il11, il12, il13, il14, il15, il16, il17, il18, il19, il20, il21, il22, il23, il24, il25, il26, il27, il28, il29, il30, il31, il32, il35, il36, il38, il40, il42, il43, il44, il45, il46, il47, il48, il49, il50, il51, il52, il57, il59, il60, il63, il64, il75, il80, il95, il96, il97, il98, il99, il100, il120, il122, il123, il127, il128, il135, il167, il175, il225, il249, il250, il255, il256, il360, il370, il384, il600, il700, il740, il900, il940, il1024, il1600, il4800, il64000, il125000, il262143, il1000000000, iI_toInt, iI_add, iI_sub, iI_mul, iI_neg, iI_lt, iI_le, iI_eq, iI_n, iI_in, iI_div, iI_mod, iI_shm, iI_and1, iI_and7, iI_and63, iI_shr3, iI_shr6, rd_I, ob, Option.some.injEq, exists_eq_left', exists_eq_left, true_and, and_true, fqI, fqJ, eq_self, true_or, or_true, bP_0, bP_0i, npP, bP_1i, bP_b, not_true_eq_false, not_false_eq_true, false_implies, true_implies, implies_true, Classical.not_not, and_self]
      exact this
    unfold wb_X12_lagoon_40
    simp (disch := omega) only [MSh.o0 M, MSh.p1 M, MSh.o1 M, MSh.l1 M, MSh.p6 M, MSh.o2 M, MSh.l2 M, MSh.p7 M, MSh.o3 M, MSh.l3 M, MSh.p8 M, MSh.o4 M, MSh.l4 M, MSh.p9 M, MSh.o5 M, MSh.l5 M, MSh.p10 M, MSh.o6 M, MSh.l6 M, MSh.p24 M, MSh.o7 M, MSh.l7 M, MSh.p25 M, MSh.o8 M, MSh.l8 M, MSh.p26 M, MSh.o9 M, MSh.l9 M, MSh.p32 M, MSh.o10 M, MSh.l10 M, MSh.p33 M, MSh.o11 M, MSh.l11 M, MSh.p35 M, MSh.o12 M, MSh.l12 M, MSh.p36 M, MSh.o13 M, MSh.l13 M, MSh.p37 M, MSh.o14 M, MSh.l14 M, MSh.p38 M, MSh.o15 M, MSh.l15 M, MSh.p39 M, MSh.o16 M, MSh.l16 M, MSh.p42 M, MSh.o17 M, MSh.l17 M, MSh.p43 M, MSh.o18 M, MSh.l18 M, MSh.p44 M, MSh.o19 M, MSh.l19 M, MSh.p45 M, MSh.o20 M, MSh.l20 M, MSh.p46 M, MSh.o21 M, MSh.l21 M, MSh.p47 M, MSh.o22 M, MSh.l22 M, MSh.p50 M, MSh.o23 M, MSh.l23 M, MSh.p51 M, MSh.o24 M, MSh.l24 M, MSh.p52 M, MSh.o25 M, MSh.l25 M, fd0, fd1, fd2, fd3, fd4, fd5, fd6, fd7, fd8, fd9, fd10, fd11, fd12, fd13, fd14, fd15, fd16, fd17, fd18, fd19, fd20, fd21, fd22, fd23, fd24, fd25, fd26, fd27, fd28, fd29, fd30, fd31, fd32, fd33, fd34, fd35, fd36, fd37, fd38, fd39, fd40, fd41, fd42, fd43, fd44, fd45, fd46, fd47, fd48, fd49, fd50, fd51, fd52, Q.X.k0, -Int.reduceToNat, -Int32.reduceToNatClampNeg, il0, il1, il2, il3, il4, il5, il6, il7, il8, il9, il10, il11, il12, il13, il14, il15, il16, il17, il18, il19, il20, il21, il22, il23, il24, il25, il26, il27, il28, il29, il30, il31, il32, il35, il36, il38, il40, il42, il43, il44, il45, il46, il47, il48, il49, il50, il51, il52, il57, il59, il60, il63, il64, il75, il80, il95, il96, il97, il98, il99, il100, il120, il122, il123, il127, il128, il135, il167, il175, il225, il249, il250, il255, il256, il360, il370, il384, il600, il700, il740, il900, il940, il1024, il1600, il4800, il64000, il125000, il262143, il1000000000, iI_toInt, iI_add, iI_sub, iI_mul, iI_neg, iI_lt, iI_le, iI_eq, iI_n, iI_in, iI_div, iI_mod, iI_shm, iI_and1, iI_and7, iI_and63, iI_shr3, iI_shr6, rd_I, ob, Option.some.injEq, exists_eq_left', exists_eq_left, true_and, and_true, fqI, fqJ, eq_self, true_or, or_true, bP_0, bP_0i, npP, bP_1i, bP_b, not_true_eq_false, not_false_eq_true, false_implies, true_implies, implies_true, Classical.not_not, and_self]
    refine ⟨fun k4 => ?_, fun nk => ?_⟩
    · rw [ite_t k4.1, ite_t k4.2] at E
      exact KS h s N td p c Q B ML h21 E
    · refine l_line Q Z B rfl (fun g F Fl => ⟨fun _ => ?_, fun u => absurd rfl u⟩) (fun g s' N' td' q L eR => ⟨fun u => absurd u i10, fun _ => ⟨L.X.M.o0, ?_⟩⟩)
      · -- a FAULT in the LINE
        have e16 := Fl.2.2
        have bb := rd_bd g 92 16
        rw [e16] at bb
        refine badE (liS T n m (wdI T n m p) s N td (tkA T n m p) (tkE T n m p)) g ?_ bb F Fl
        by_cases k4 : tkK T n m p = 4
        · rw [ite_t k4, ite_f (fun u => nk ⟨k4, u⟩)] at E
          rw [E, show wdI T n m p = -1 by unfold wdI; rw [ite_f (by omega)], li_x (by omega)]
        · rw [ite_f k4] at E
          have eL : lnS T n m (wdI T n m p) s N td (tkA T n m p) (tkE T n m p) = liS T n m (wdI T n m p) s N td (tkA T n m p) (tkE T n m p) := by
            unfold lnS
            rw [ite_f Fl.1]
          rw [eL, ite_f Fl.1] at E
          exact E
      · have k4 : ¬ tkK T n m p = 4 := fun k4 => by
          rw [show wdI T n m p = -1 by unfold wdI; rw [ite_f (by omega)], li_x (by omega)] at eR
          have := congrArg (fun r : RT => r.1) eR
          have : (1 : Int) = 0 := this
          omega
        rw [ite_f k4] at E
        have kp := line_ok (T := T) (w := wdI T n m p) (a := tkA T n m p) B NK (p := tkE T n m p) (m := m) ⟨by omega, tb.2.2⟩ hm.1
        rw [eR] at kp
        obtain ⟨B', NK', p1, p2⟩ := kp rfl
        have B' : BA s' td' := B'
        have NK' : NmK s' N' := NK'
        have p1 : tkE T n m p ≤ q := p1
        have p2 : q ≤ n := p2
        have eLn : lnS T n m (wdI T n m p) s N td (tkA T n m p) (tkE T n m p) = iteP (tkK T n m q = 3) (okR s' N' td' (tkE T n m q)) (bdR 1 (tkA T n m q)) := by
          unfold lnS
          rw [eR]
          exact ite_t rfl
        have L21 : rd g 92 21 = c := by rw [L.FF.2.1 21 (by omega)]; exact h21
        refine L.sign (fun k3 g2 F2 e1 e2 => ⟨fun u => absurd rfl u, fun _ => ?_⟩) (fun k3 g2 u2 L2 => ⟨fun _ => ?_, fun u => absurd u i10⟩)
        · rw [ite_f k3] at eLn
          rw [eLn, ite_f (show ¬ (bdR 1 (tkA T n m q)).1 = 0 by show ¬ (1 : Int) = 0; omega)] at E
          have qb := L.X.bd
          exact badE _ g2 E (by show -2147483648 ≤ tkA T n m q ∧ tkA T n m q < 2147483648; omega) F2 ⟨by show (1 : Int) ≠ 0; omega, e1, e2⟩
        · rw [ite_t k3] at eLn
          rw [eLn, ite_t (show (okR s' N' td' (tkE T n m q)).1 = 0 from rfl)] at E
          have M2 := L2.X.M
          have L21' : rd g2 92 21 = c := by rw [u2.2 21 (by decide)]; exact L21
          have gt := tkE_gt (T := T) (m := m) (p := q) ⟨by omega, p2⟩ (Or.inr k3)
          simp (disch := omega) only [MSh.o0 M2, MSh.p1 M2, MSh.o1 M2, MSh.l1 M2, MSh.p6 M2, MSh.o2 M2, MSh.l2 M2, MSh.p7 M2, MSh.o3 M2, MSh.l3 M2, MSh.p8 M2, MSh.o4 M2, MSh.l4 M2, MSh.p9 M2, MSh.o5 M2, MSh.l5 M2, MSh.p10 M2, MSh.o6 M2, MSh.l6 M2, MSh.p24 M2, MSh.o7 M2, MSh.l7 M2, MSh.p25 M2, MSh.o8 M2, MSh.l8 M2, MSh.p26 M2, MSh.o9 M2, MSh.l9 M2, MSh.p32 M2, MSh.o10 M2, MSh.l10 M2, MSh.p33 M2, MSh.o11 M2, MSh.l11 M2, MSh.p35 M2, MSh.o12 M2, MSh.l12 M2, MSh.p36 M2, MSh.o13 M2, MSh.l13 M2, MSh.p37 M2, MSh.o14 M2, MSh.l14 M2, MSh.p38 M2, MSh.o15 M2, MSh.l15 M2, MSh.p39 M2, MSh.o16 M2, MSh.l16 M2, MSh.p42 M2, MSh.o17 M2, MSh.l17 M2, MSh.p43 M2, MSh.o18 M2, MSh.l18 M2, MSh.p44 M2, MSh.o19 M2, MSh.l19 M2, MSh.p45 M2, MSh.o20 M2, MSh.l20 M2, MSh.p46 M2, MSh.o21 M2, MSh.l21 M2, MSh.p47 M2, MSh.o22 M2, MSh.l22 M2, MSh.p50 M2, MSh.o23 M2, MSh.l23 M2, MSh.p51 M2, MSh.o24 M2, MSh.l24 M2, MSh.p52 M2, MSh.o25 M2, MSh.l25 M2, fd0, fd1, fd2, fd3, fd4, fd5, fd6, fd7, fd8, fd9, fd10, fd11, fd12, fd13, fd14, fd15, fd16, fd17, fd18, fd19, fd20, fd21, fd22, fd23, fd24, fd25, fd26, fd27, fd28, fd29, fd30, fd31, fd32, fd33, fd34, fd35, fd36, fd37, fd38, fd39, fd40, fd41, fd42, fd43, fd44, fd45, fd46, fd47, fd48, fd49, fd50, fd51, fd52, L21', -Int.reduceToNat, -Int32.reduceToNatClampNeg, il0, il1, il2, il3, il4, il5, il6, il7, il8, il9, il10, il11, il12, il13, il14, il15, il16, il17, il18, il19, il20, il21, il22, il23, il24, il25, il26, il27, il28, il29, il30, il31, il32, il35, il36, il38, il40, il42, il43, il44, il45, il46, il47, il48, il49, il50, il51, il52, il57, il59, il60, il63, il64, il75, il80, il95, il96, il97, il98, il99, il100, il120, il122, il123, il127, il128, il135, il167, il175, il225, il249, il250, il255, il256, il360, il370, il384, il600, il700, il740, il900, il940, il1024, il1600, il4800, il64000, il125000, il262143, il1000000000, iI_toInt, iI_add, iI_sub, iI_mul, iI_neg, iI_lt, iI_le, iI_eq, iI_n, iI_in, iI_div, iI_mod, iI_shm, iI_and1, iI_and7, iI_and63, iI_shr3, iI_shr6, rd_I, ob, Option.some.injEq, exists_eq_left', exists_eq_left, true_and, and_true, fqI, fqJ, eq_self, true_or, or_true, bP_0, bP_0i, npP, bP_1i, bP_b, not_true_eq_false, not_false_eq_true, false_implies, true_implies, implies_true, Classical.not_not, and_self]
          intro g3 w3
          obtain ⟨f3, r3⟩ := wI (i := 21) (by omega) (by omega) (by omega) w3
          obtain ⟨X0, rw0, F0, hh, nm, t2, sq, ft⟩ := L2
          have ML3 : mL h g3 := F0.ml.trans ⟨f3.mono (by simp) (by simp) (by simp), fun j hj => by rw [r3, updT_n (by omega)], fun j _ => by rw [f3.2.2.2.2.2.1 97 (by simp)], fun i _ => by rw [f3.row (show (99 : Nat) ∉ [92] by simp), f3.row (show (100 : Nat) ∉ [92] by simp)]; exact ⟨rfl, rfl⟩⟩
          refine ih g3 s' N' td' (tkE T n m q) (c + 1) ⟨X0.put f3 r3 (by omega), fun i i0 i1 => by rw [f3.2.2.2.2.2.1 98 (by simp)]; exact rw0 i i0 i1, mF.refl g3, fun i i0 i1 => by rw [f3.row (by simp)]; exact hh i i0 i1, fun r r0 r1 => by rw [f3.2.2.2.2.2.1 97 (by simp)]; exact nm r r0 r1, by rw [r3, updT_n (by omega)]; exact t2, by rw [r3, updT_n (by omega)]; exact sq, by rw [r3, updT_n (by omega)]; exact ft⟩ (ML3.z24 Z) B' NK' (ML.trans ML3) (by omega) (by rw [r3, updT_s]) (by omega) (by omega) E
end MLI
