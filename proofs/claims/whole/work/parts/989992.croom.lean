/-! RAFTS that lie in the LAGOON, each for itself -/
def LYS (s T z : Int → Int) : Prop := ∀ r, 0 ≤ r → r < s 2 → Spot T z r ∧ insT s T z r
def rpO (s T z : Int → Int) (a b : Int) : Prop := ∀ k, 0 ≤ k → k < s 4 → ((s (135 + 4 * k) = a ∧ s (135 + 4 * k + 1) = b) ∨ (s (135 + 4 * k) = b ∧ s (135 + 4 * k + 1) = a)) → gapT T z (s (135 + 4 * k)) (s (135 + 4 * k + 1)) ≤ s (135 + 4 * k + 2)
section ROO
variable {h h1 h2 h' h0 g0 g : AH} {qa0 qa ac la tw : Nat} {postV : AH → Prop} {post : AH → Int32 → Prop} {a b c d f i j k v w x y pl r hr how goal st u sp sq q p last o : Int} {s t t' z T : Int → Int}
theorem okN_iff (gs : GS s) (fw : few s) (e : EZ z s) (L3 : BL3 h s) (W : LYS s T z) (a0 : 0 ≤ a) (a1 : a < s 2) (b0 : 0 ≤ b) (b1 : b < s 2) : okN h s a b (nmB s a (enc T a)) (nmB s b (enc T b)) ↔ ¬ overT T z a b ∧ (rchV s a b = 99 ∨ gapT T z a b ≤ rchV s a b) := by
  have n0 : s 0 ≤ 8 := gs.1.2.1
  have n1 : s 1 ≤ 8 := gs.1.2.2.1
  have f3 := fw.1
  have hZ := Z1s gs e
  obtain ⟨Sa, Ia⟩ := W a a0 a1
  obtain ⟨Sb, Ib⟩ := W b b0 b1
  obtain ⟨⟨u0, u1⟩, ud⟩ := hd_of e a0 (by omega) Sa Ia
  obtain ⟨⟨v0, v1⟩, vd⟩ := hd_of e b0 (by omega) Sb Ib
  have Ba := (L3 a a0 (by omega)).1 a1
  have Bb := (L3 b b0 (by omega)).1 b1
  have wa := wsp_enc e a0 (by omega) Sa
  have wb := wsp_enc e b0 (by omega) Sb
  have ga := wd_Z Sa.P1 (hZ a a0 a1)
  have gb := wd_Z Sb.P1 (hZ b b0 b1)
  unfold okN gspN
  rw [Ba.ss _ u0 u1 ud, Bb.ss _ v0 v1 vd, Ba.cv _ u0 u1 ud, Bb.cv _ v0 v1 vd, gsp_enc e a0 (by omega) b0 (by omega) Sa Sb (hZ a a0 a1) (hZ b b0 b1), wa.1, wa.2, wb.1, wb.2, z_and0']
  refine and_congr ?_ Iff.rfl
  have oc := over_cells (in8_of n0 n1 Ia) (in8_of n0 n1 Ib)
  have ka := fun x y x1 x2 y1 y2 => zb_spot (x := x) (y := y) Sa (in8_of n0 n1 Ia) (hZ a a0 a1) x1 x2 y1 y2
  have kb := fun x y x1 x2 y1 y2 => zb_spot (x := x) (y := y) Sb (in8_of n0 n1 Ib) (hZ b b0 b1) x1 x2 y1 y2
  constructor
  · intro q o4
    obtain ⟨⟨x, y, x1, x2, y1, y2, k1, k2⟩, -⟩ := oc.mp ⟨⟨o4.1.1, o4.1.2⟩, ⟨o4.2.1, o4.2.2⟩, by omega, by omega, by omega, by omega⟩
    exact q x y x1 x2 y1 y2 ⟨(ka x y x1 x2 y1 y2).mpr k1, (kb x y x1 x2 y1 y2).mpr k2⟩
  · rintro q x y x1 x2 y1 y2 ⟨k1, k2⟩
    have := oc.mpr ⟨⟨x, y, x1, x2, y1, y2, (ka x y x1 x2 y1 y2).mp k1, (kb x y x1 x2 y1 y2).mp k2⟩, by omega, by omega, by omega, by omega⟩
    exact q ⟨this.1, this.2.1⟩
theorem rch_iff (gs : GS s) (e : EZ z s) (v9 : ∀ k, 0 ≤ k → k < s 4 → s (135 + 4 * k + 2) ≤ 9) (ru : RUq s) (W : LYS s T z) (a0 : 0 ≤ a) (a1 : a < s 2) (b0 : 0 ≤ b) (b1 : b < s 2) : (rchV s a b = 99 ∨ gapT T z a b ≤ rchV s a b) ↔ rpO s T z a b := by
  have hZ := Z1s gs e
  have ga := wd_Z (W a a0 a1).1.P1 (hZ a a0 a1)
  have gb := wd_Z (W b b0 b1).1.P1 (hZ b b0 b1)
  have sy : gapT T z a b = gapT T z b a := gap_sym ga.1.1 ga.2.1 gb.1.1 gb.2.1
  rcases rchV_99 (a := a) (b := b) gs v9 with ⟨u1, u2⟩ | ⟨u1, u2, u3, k0, k1, k2, k3, k4⟩
  · exact ⟨fun _ k k0 k1 k2 => absurd ⟨k, k0, k1, k2⟩ u2, fun _ => Or.inl u1⟩
  · have gg : gapT T z (s (135 + 4 * k0)) (s (135 + 4 * k0 + 1)) = gapT T z a b := by
      rcases k3 with ⟨q1, q2⟩ | ⟨q1, q2⟩
      · rw [q1, q2]
      · rw [q1, q2, sy]
    rw [k4] at u1 ⊢
    constructor
    · intro l k l0 l1 l2
      have ek : k = k0 := by
        by_cases c : k < k0
        · exact absurd (by omega) (ru k k0 l0 c k2)
        · by_cases c' : k0 < k
          · exact absurd (by omega) (ru k0 k k1 c' l1)
          · omega
      rw [ek, gg]
      rcases l with l | l
      · omega
      · exact l
    · intro l
      have := l k0 k1 k2 k3
      rw [gg] at this
      exact Or.inr this
theorem far_iff (gs : GS s) : ¬ farT s T z r ↔ ∀ o, 0 ≤ o → o < s 2 → o ≠ r → rpO s T z r o := by
  obtain ⟨⟨hS, n0, n1, n2, n3, n4, n5, hK, hW⟩, hD, hPo, hNe⟩ := gs
  unfold farT rpO
  constructor
  · intro q o _ _ _ k k0 k1 k2
    refine Classical.byContradiction fun u => q ⟨k, k0, k1, ?_, by omega⟩
    omega
  · rintro q ⟨k, k0, k1, k2, k3⟩
    obtain ⟨⟨q1, q2⟩, q3, q4⟩ := hK k k0 k1
    have ne := hNe k k0 k1
    rcases k2 with k2 | k2
    · have := q (s (135 + 4 * k + 1)) q3 q4 (by omega) k k0 k1 (Or.inl ⟨k2, rfl⟩)
      omega
    · have := q (s (135 + 4 * k)) q1 q2 (by omega) k k0 k1 (Or.inr ⟨rfl, k2⟩)
      omega
theorem rpO_sym : rpO s T z a b ↔ rpO s T z b a := by
  unfold rpO
  exact ⟨fun q k k0 k1 k2 => q k k0 k1 k2.symm, fun q k k0 k1 k2 => q k k0 k1 k2.symm⟩
theorem nmr_W (gs : GS s) (fw : few s) (e : EZ z s) (W : LYS s T z) (h1 : 0 ≤ r) (h3 : r < 3) : 0 ≤ nmr s T r ∧ nmr s T r < cntB s r := by
  have f3 := fw.1
  unfold nmr cntB
  by_cases c : r < s 2
  · rw [ite_t c, ite_t c]
    obtain ⟨⟨b0, b1⟩, bd⟩ := hd_of e h1 (by omega) (W r h1 c).1 (W r h1 c).2
    exact ⟨nmB_nn b0, nmB_lt b0 b1 bd⟩
  · rw [ite_f c, ite_f c]; omega
/-- one bit of the table, as the RAFTS lie -/
theorem tog_iff (gs : GS s) (fw : few s) (e : EZ z s) (v9 : ∀ k, 0 ≤ k → k < s 4 → s (135 + 4 * k + 2) ≤ 9) (ru : RUq s) (L3 : BL3 h s) (TT : TG3 h s) (W : LYS s T z) (r0 : 0 ≤ r) (r1 : r < s 2) (o0 : 0 ≤ o) (o3 : o < 3) (ne : o ≠ r) : zb (aJ h 86 ((3 * o + r) * 40 + nmr s T o).toNat) (nmr s T r) ↔ (o < s 2 → ¬ overT T z r o ∧ rpO s T z r o) := by
  have f3 := fw.1
  have wr := nmr_W gs fw e W r0 (by omega)
  have wo := nmr_W gs fw e W o0 o3
  have cr := cntB_b gs fw r0 (show r < 3 by omega)
  have co := cntB_b gs fw o0 o3
  have er : nmr s T r = nmB s r (enc T r) := by unfold nmr; rw [ite_t r1]
  by_cases c : o < s 2
  · have eo : nmr s T o = nmB s o (enc T o) := by unfold nmr; rw [ite_t c]
    have P : zb (aJ h 86 ((3 * o + r) * 40 + nmr s T o).toNat) (nmr s T r) ↔ ¬ overT T z r o ∧ rpO s T z r o := by
      by_cases lt : o < r
      · have k := (TT o r o0 lt (by omega) (nmr s T o) (nmr s T r) wo.1 (by omega) wr.1 (by omega)).1
        have ok := okN_iff gs fw e L3 W o0 c r0 r1
        rw [← eo, ← er, rch_iff gs e v9 ru W o0 c r0 r1, over_sym, rpO_sym] at ok
        rw [k, ok]
        exact ⟨fun u => u.2, fun u => ⟨⟨wo.2, wr.2⟩, u⟩⟩
      · have k := (TT r o r0 (by omega) o3 (nmr s T r) (nmr s T o) wr.1 (by omega) wo.1 (by omega)).2
        have ok := okN_iff gs fw e L3 W r0 r1 o0 c
        rw [← eo, ← er, rch_iff gs e v9 ru W r0 r1 o0 c] at ok
        rw [k, ok]
        exact ⟨fun u => u.2, fun u => ⟨⟨wr.2, wo.2⟩, u⟩⟩
    rw [P]
    exact ⟨fun u _ => u, fun u => u c⟩
  · refine ⟨fun _ u => absurd u c, fun _ => ?_⟩
    have eo : nmr s T o = 0 := by unfold nmr; rw [ite_f c]
    have z83 := ((L3 o o0 o3).2 (by omega)).2
    have rc : rchV s r o = 99 := by
      rcases rchV_99 (a := r) (b := o) gs v9 with u | u
      · exact u.1
      · omega
    have k := (TT r o r0 (by omega) o3 (nmr s T r) (nmr s T o) wr.1 (by omega) wo.1 (by omega)).2
    rw [k]
    refine ⟨⟨wr.2, wo.2⟩, ?_, Or.inl rc⟩
    rw [eo, show 40 * o + 0 = 40 * o by omega, z83]
    exact (z_and0 _ _).mpr fun k _ _ q => zb_0 _ q.2
theorem room_iff (gs : GS s) (fw : few s) (e : EZ z s) (v9 : ∀ k, 0 ≤ k → k < s 4 → s (135 + 4 * k + 2) ≤ 9) (ru : RUq s) (L3 : BL3 h s) (TT : TG3 h s) (W : LYS s T z) (r0 : 0 ≤ r) (r1 : r < s 2) : (∀ o, 0 ≤ o → o ≤ 2 → o ≠ r → zb (aJ h 86 ((3 * o + r) * 40 + nmr s T o).toNat) (nmr s T r)) ↔ ¬ onAnT s T z r ∧ ¬ farT s T z r := by
  have f3 := fw.1
  rw [far_iff gs]
  constructor
  · intro q
    have q' := fun o o0 (o1 : o < s 2) ne => (tog_iff gs fw e v9 ru L3 TT W r0 r1 o0 (by omega) ne).mp (q o o0 (by omega) ne) o1
    exact ⟨fun ⟨o, o0, o1, o2, o3⟩ => (q' o o0 o1 o2).1 o3, fun o o0 o1 ne => (q' o o0 o1 ne).2⟩
  · rintro ⟨q1, q2⟩ o o0 o3 ne
    exact (tog_iff gs fw e v9 ru L3 TT W r0 r1 o0 (by omega) ne).mpr fun o1 => ⟨fun u => q1 ⟨o, o0, o1, ne, u⟩, q2 o o0 o1 ne⟩
theorem why0_iff : whyT s t z r how hr = 0 ↔ onwP s t z r how hr ∧ ¬ onAnT s (candT s t z r how) z r ∧ ¬ farT s (candT s t z r how) z r := by
  unfold whyT why2 onwP
  by_cases c1 : flT s t z r hr
  · by_cases c2 : how = 4 ∧ polT s t z r = -1
    · rw [ite_t c1, ite_t c2]; exact ⟨fun u => by omega, fun u => absurd c2 u.1.2.1⟩
    · rw [ite_t c1, ite_f c2]
      by_cases c3 : insT s (candT s t z r how) z r
      · rw [ite_t c3]
        by_cases c4 : onAnT s (candT s t z r how) z r
        · rw [ite_t c4]; exact ⟨fun u => by omega, fun u => absurd c4 u.2.1⟩
        · rw [ite_f c4]
          by_cases c5 : flT s (candT s t z r how) z r hr
          · rw [ite_t c5]
            by_cases c6 : farT s (candT s t z r how) z r
            · rw [ite_t c6]; exact ⟨fun u => by omega, fun u => absurd c6 u.2.2⟩
            · rw [ite_f c6]; exact ⟨fun _ => ⟨⟨c1, c2, c3, c5⟩, c4, c6⟩, fun _ => rfl⟩
          · rw [ite_f c5]; exact ⟨fun u => by omega, fun u => absurd u.1.2.2.2 c5⟩
      · rw [ite_f c3]; exact ⟨fun u => by omega, fun u => absurd u.1.2.2.1 c3⟩
  · rw [ite_f c1]; exact ⟨fun u => by omega, fun u => absurd u.1.1 c1⟩
end ROO
