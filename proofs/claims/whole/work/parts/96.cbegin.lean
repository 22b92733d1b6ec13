/-! the class begins to read -/
def plS : Int → Int := fun i => if 75 ≤ i ∧ i < 99 then 5 else 0
section CBG
variable {h h1 h2 h' h0 g : AH} {fr tx ci tb : Nat} {postV : AH → Prop} {post : AH → Int32 → Prop} {a b c d r x y n m p f fa q e k i lo hi v w td : Int} {T s : Int → Int} {l : List Int} {N : Int → List Int}
theorem plS_0 (h : i < 75 ∨ 99 ≤ i) : plS i = 0 := if_neg (by omega)
theorem plS_5 (h : 75 ≤ i ∧ i < 99) : plS i = 5 := if_pos h
theorem BA.plain : BA plS 0 := by
  have e0 : ∀ i, (i < 75 ∨ 99 ≤ i) → plS i = 0 := fun i hi => plS_0 hi
  refine ⟨⟨⟨fun i i0 i1 => ?_, by rw [e0 0 (by omega)]; omega, by rw [e0 1 (by omega)]; omega, by rw [e0 2 (by omega)]; omega, by rw [e0 3 (by omega)]; omega, by rw [e0 4 (by omega)]; omega, by rw [e0 5 (by omega)]; omega, fun k k0 k1 => ?_, fun k k0 k1 => ?_⟩, ⟨fun i i0 i1 => ?_, fun x y x0 x1 y0 y1 => ?_, fun r r0 r1 => ?_⟩, fun k k0 k1 => ?_, fun k k0 k1 => ?_⟩, fun k k0 k1 => ?_, ?_, fun r r0 r1 => ?_, fun k k0 k1 => ?_, fun k k0 k1 => ?_, fun r r0 r1 => ?_, ?_, fun i i0 => e0 i (by omega), fun i i0 i1 => by rw [e0 5 (by omega)] at i0; exact e0 i (by omega), by omega, fun k l k0 kl l1 => by rw [e0 4 (by omega)] at l1; omega⟩
  · by_cases c : 75 ≤ i ∧ i < 99
    · rw [plS_5 c]; omega
    · rw [e0 i (by omega)]; omega
  · rw [e0 4 (by omega)] at k1; omega
  · rw [e0 5 (by omega)] at k1; omega
  · rw [plS_5 (by omega)]; omega
  · rw [e0 0 (by omega)] at x1; omega
  · rw [e0 2 (by omega)] at r1; omega
  · rw [e0 3 (by omega)] at k1; omega
  · rw [e0 4 (by omega)] at k1; omega
  · rw [e0 5 (by omega)] at k1; omega
  · unfold SqOk; rw [e0 6 (by omega), e0 7 (by omega), e0 8 (by omega), e0 9 (by omega)]; omega
  · rw [e0 2 (by omega)] at r1; omega
  · rw [e0 4 (by omega)] at k1; omega
  · rw [e0 4 (by omega)] at k1; omega
  · rw [e0 2 (by omega)] at r1; omega
  · rw [e0 8 (by omega), e0 9 (by omega)]
theorem Fr.bb {j : Nat} (hj : fr ≤ j ∧ j ≤ fr + 20) (F : Fr [j] [] [] h h') : Fr (blk fr) (blk fr) [] h h' := F.mono (fun a ha => by rw [List.mem_singleton] at ha; rw [ha]; exact mem_blk.mpr hj) (by simp) (by simp)
theorem Fr.bz {j : Nat} (hj : fr ≤ j ∧ j ≤ fr + 20) (F : Fr [] [j] [] h h') : Fr (blk fr) (blk fr) [] h h' := F.mono (by simp) (fun a ha => by rw [List.mem_singleton] at ha; rw [ha]; exact mem_blk.mpr hj) (by simp)
theorem c_empty (H : LB h fr) (K : ∀ h', Fr (blk fr) (blk fr) [] h h' → LR h' fr plS → postV h') : wp_X1_empty h fr postV := by
  have nx : ∀ {g g' : AH} {wi wj : List Nat}, LB g fr → Fr wi wj [] g g' → LB g' fr := fun H F => LB.same F.1 F.2.2.1 F.2.2.2.1 F.aPe H
  unfold wp_X1_empty
  rw [show (0 : Int32) = iI 0 from rfl, show (5 : Int32) = iI 5 from rfl]
  refine ⟨H.o0, fun g1 e1 => ?_⟩
  obtain ⟨f1, r1⟩ := wI (i := 0) (by omega) (by omega) (by omega) e1
  have H1 := nx H f1
  refine ⟨H1.o0, fun g2 e2 => ?_⟩
  obtain ⟨f2, r2⟩ := wI (i := 1) (by omega) (by omega) (by omega) e2
  have H2 := nx H1 f2
  refine ⟨H2.o0, fr + 2, H2.p3, c_fillJ H2.o2 H2.l2 (by omega) fun g3 f3 z3 => ?_⟩
  have H3 := nx H2 f3
  refine ⟨H3.o0, fr + 3, H3.p4, c_fillI H3.o3 H3.l3 (by omega) (by omega) fun g4 f4 z4 z4' => ?_⟩
  have H4 := nx H3 f4
  refine ⟨H4.o0, fun g5 e5 => ?_⟩
  obtain ⟨f5, r5⟩ := wI (i := 5) (by omega) (by omega) (by omega) e5
  have H5 := nx H4 f5
  refine ⟨H5.o0, fun g6 e6 => ?_⟩
  obtain ⟨f6, r6⟩ := wI (i := 11) (by omega) (by omega) (by omega) e6
  have H6 := nx H5 f6
  refine ⟨H6.o0, fun g7 e7 => ?_⟩
  have f7 : Fr [] [fr] [] g6 g7 := e7 ▸ fr_hJ
  have H7 := nx H6 f7
  refine ⟨H7.o0, fr + 10, H7.p14, H7.o10, ?_⟩
  unfold wp_X4_empty
  rw [show (0 : Int32) = iI 0 from rfl]
  refine ⟨H7.o10, fun g8 e8 => ?_⟩
  obtain ⟨f8, r8⟩ := wI (i := 0) (by omega) (by omega) (by omega) e8
  have H8 := nx H7 f8
  refine ⟨H8.o10, fr + 15, H8.q10_5, c_fillI H8.o15 H8.l15 (by omega) (by omega) fun g9 f9 z9 z9' => ?_⟩
  have H9 := nx H8 f9
  refine ⟨H9.o0, fr + 16, H9.p15, H9.o16, fun gA eA => ?_⟩
  obtain ⟨fA, rA⟩ := wI (i := 0) (by omega) (by omega) (by omega) eA
  have FF : Fr (blk fr) (blk fr) [] h gA := (f1.bb (by omega)).trans ((f2.bb (by omega)).trans ((f3.bz (by omega)).trans ((f4.bb (by omega)).trans ((f5.bb (by omega)).trans ((f6.bb (by omega)).trans ((f7.bz (by omega)).trans ((f8.bb (by omega)).trans ((f9.bb (by omega)).trans (fA.bb (by omega))))))))))
  refine K gA FF ?_
  have q0 : rd gA fr = updT (updT (rd g4 fr) 5 0) 11 0 := by rw [fA.row (by simp), f9.row (by simp), f8.row (by simp), f7.row (by simp), r6, r5]
  have q0' : rd g4 fr = updT (updT (rd h fr) 0 0) 1 0 := by rw [f4.row (by simp), f3.row (by simp), r2, r1]
  have p0 : ∀ i, (i < 75 ∨ 99 ≤ i) → plS i = 0 := fun i hi => plS_0 hi
  have j2 : ∀ j : Nat, j < 10 → aJ gA (fr + 2) j = 0 := fun j hj => by
    rw [fA.2.2.2.2.2.1 _ (by simp), f9.2.2.2.2.2.1 _ (by simp), f8.2.2.2.2.2.1 _ (by simp), f7.2.2.2.2.2.1 _ (by simp), f6.2.2.2.2.2.1 _ (by simp), f5.2.2.2.2.2.1 _ (by simp), f4.2.2.2.2.2.1 _ (by simp)]
    exact z3 j hj
  have j13 : aJ gA fr 13 = 0 := by
    rw [fA.2.2.2.2.2.1 _ (by simp), f9.2.2.2.2.2.1 _ (by simp), f8.2.2.2.2.2.1 _ (by simp), e7, aJ_hJ, if_pos rfl]
  exact ⟨by rw [q0, updT_n (by omega), updT_n (by omega), q0', updT_n (by omega), updT_s, p0 0 (by omega)], by rw [q0, updT_n (by omega), updT_n (by omega), q0', updT_s, p0 1 (by omega)], by rw [q0, updT_n (by omega), updT_s, p0 2 (by omega)], by rw [q0, updT_s, p0 3 (by omega)], by rw [fA.row (by simp), f9.row (by simp), r8, updT_s, p0 4 (by omega)], by rw [rA, updT_s, p0 5 (by omega)],
    fun x y x0 x1 y0 y1 => by rw [p0 0 (by omega)] at x1; omega, fun gg x y g0 g1 x0 x1 y0 y1 => by rw [j2 _ (by omega), p0 0 (by omega)]; exact ⟨fun u => absurd u (zb_0 _), fun u => by omega⟩, fun i i0 i1 => by rw [fA.row (by simp), f9.row (by simp), f8.row (by simp), f7.row (by simp), f6.row (by simp), f5.row (by simp), z4 i i0 (by omega), plS_5 (by omega)],
    fun r r0 r1 => by rw [p0 2 (by omega)] at r1; omega, fun r r0 r1 => by rw [p0 2 (by omega)] at r1; omega, fun r r0 r1 => by rw [p0 2 (by omega)] at r1; omega, fun r r0 r1 => by rw [p0 3 (by omega)] at r1; omega, fun r r0 r1 => by rw [p0 4 (by omega)] at r1; omega, fun r r0 r1 => by rw [p0 4 (by omega)] at r1; omega, fun r r0 r1 => by rw [p0 4 (by omega)] at r1; omega, fun r r0 r1 => by rw [p0 4 (by omega)] at r1; omega,
    fun r r0 r1 => by rw [fA.row (by simp), z9 r r0 (by omega), p0 _ (by omega)], fun r r0 r1 => by rw [p0 5 (by omega)] at r1; omega, fun r r0 r1 => by rw [p0 5 (by omega)] at r1; omega, fun r r0 r1 => by rw [p0 5 (by omega)] at r1; omega, fun r r0 r1 => by rw [p0 5 (by omega)] at r1; omega,
    fun x y x0 x1 y0 y1 => by rw [j13, p0 6 (by omega), p0 7 (by omega), p0 8 (by omega), p0 9 (by omega)]; exact ⟨fun u => absurd u (zb_0 _), fun u => by omega⟩⟩
/-- a reader takes the bytes; g is h with the pointer set -/
theorem c_begin (O : ob h tx ci) (X : TXs h T) (B : TBl h tx tb) (ht : tx ≠ 1 ∧ tb ≠ tx) (hn : 0 ≤ n ∧ n ≤ 940) (hm : 0 ≤ m ∧ m ≤ 1000) (K : ∀ g h', g = hP h tx 1 1 → Fr [tx] [] [] g h' → (∀ j : Int, j ∉ [(2 : Int), 3, 4, 5, 10, 11] → rd h' tx j = rd h tx j) → RD T n m h' tx ci tb 0 0 0 0 → postV h') : wp_X7_begin ci h tx 1 (iI n) (iI m) postV := by
  unfold wp_X7_begin
  refine ⟨O, fun g eg => ?_⟩
  have fg : Fr [] [] [tx] h g := eg ▸ fr_hP
  obtain ⟨x1, x2, x3, x4⟩ := X
  obtain ⟨b1, b2, b3, b4⟩ := B
  have og : ∀ {x k}, ob h x k → ob g x k := fun {x k} o => ⟨by rw [fg.2.2.1]; exact o.1, by rw [fg.1]; exact o.2⟩
  have Og := og O
  have o1 := og x1
  have l1 : aL g 1 = 940 := by rw [fg.2.2.2.1]; exact x2
  refine ⟨⟨Or.inl o1.1, o1.2⟩, Og, fun g2 e2 => ?_⟩
  rw [l1, nI_iI, mnI (by omega) (by omega) (by omega) (by omega), show (if ((940 : Nat) : Int) < n then ((940 : Nat) : Int) else n) = n by rw [if_neg (by omega)]] at e2
  obtain ⟨f2, r2⟩ := wI (i := 2) (by omega) (by omega) (by omega) e2
  refine ⟨f2.gr.ob Og, fun g3 e3 => ?_⟩
  obtain ⟨f3, r3⟩ := wI (i := 3) (by omega) (by omega) (by omega) e3
  have F3 := f2.trans f3
  rw [show (0 : Int32) = iI 0 from rfl]
  refine ⟨F3.gr.ob Og, fun g4 e4 => ?_⟩
  obtain ⟨f4, r4⟩ := wI (i := 4) (by omega) (by omega) (by omega) e4
  have F4 := F3.trans f4
  refine ⟨F4.gr.ob Og, fun g5 e5 => ?_⟩
  obtain ⟨f5, r5⟩ := wI (i := 5) (by omega) (by omega) (by omega) e5
  have F5 := F4.trans f5
  refine ⟨F5.gr.ob Og, fun g6 e6 => ?_⟩
  obtain ⟨f6, r6⟩ := wI (i := 10) (by omega) (by omega) (by omega) e6
  have F6 := F5.trans f6
  refine ⟨F6.gr.ob Og, fun g7 e7 => ?_⟩
  obtain ⟨f7, r7⟩ := wI (i := 11) (by omega) (by omega) (by omega) e7
  have F7 := F6.trans f7
  have q : rd g7 tx = updT (updT (updT (updT (updT (updT (rd g tx) 2 n) 3 m) 4 0) 5 0) 10 0) 11 0 := by rw [r7, r6, r5, r4, r3, r2]
  have rg : ∀ x, rd g x = rd h x := fun x => fg.row (by simp)
  refine K g g7 eg F7 (fun j hj => ?_) ⟨F7.gr.ob Og, ?_, ⟨F7.gr.ob o1, by rw [F7.2.2.2.1]; exact l1, by rw [F7.row (by simpa using ht.1.symm), rg]; exact x3, x4⟩, ⟨?_, F7.gr.ob (og b2), by rw [F7.2.2.2.1, fg.2.2.2.1]; exact b3, fun i i0 i1 => by rw [F7.row (by simpa using ht.2), rg]; exact b4 i i0 i1⟩, ?_, ?_, ?_, ?_, ?_, ?_, by omega, by omega, hn.2, hm, ht⟩
  · simp only [List.mem_cons, List.not_mem_nil, or_false, not_or] at hj
    rw [q, updT_n hj.2.2.2.2.2, updT_n hj.2.2.2.2.1, updT_n hj.2.2.2.1, updT_n hj.2.2.1, updT_n hj.2.1, updT_n hj.1, rg]
  · rw [F7.aPe, eg, aP_hP, if_pos rfl]
  · rw [F7.aPe, eg, aP_hP, if_neg (by omega)]; exact b1
  · rw [q, updT_n (by omega), updT_n (by omega), updT_n (by omega), updT_n (by omega), updT_n (by omega), updT_s]
  · rw [q, updT_n (by omega), updT_n (by omega), updT_n (by omega), updT_n (by omega), updT_s]
  · rw [q, updT_n (by omega), updT_s]
  · rw [q, updT_s]
  · rw [q, updT_n (by omega), updT_n (by omega), updT_n (by omega), updT_s]
  · rw [q, updT_n (by omega), updT_n (by omega), updT_s]
end CBG
