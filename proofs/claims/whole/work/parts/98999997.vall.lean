/-! TOWNS in which all is right, by their numbers -/
def VAl (s t0 z T : Int → Int) : Prop := VT s T z ∧ (∀ a b, 0 ≤ a → a < b → b < s 2 → rpO s T z a b) ∧ ∀ j, j < 0 ∨ 3 * s 2 ≤ j → T j = t0 j
def nm3 (p q l r : Int) : Int := if r = 0 then p else if r = 1 then q else l
def tn3 (h : AH) (s t0 : Int → Int) (p q l : Int) : Int → Int := fun j => if 0 ≤ j ∧ j < 3 * s 2 then ptS (j / 3) (rd h 82 (40 * (j / 3) + nm3 p q l (j / 3))) j else t0 j
noncomputable def lfT (s t z : Int → Int) : Int32 := foldI (bitsF (fun w => ¬ soT s t z w)) (s 5).toNat 0 (iI 0)
/-- the first of the best of all below a number -/
def AB (s t0 z : Int → Int) (most st c : Int) : Prop := (most = -1 ∧ st = 0 ∧ ∀ T, VAl s t0 z T → ¬ csT s T < c) ∨ ∃ T, VAl s t0 z T ∧ csT s T < c ∧ st = csT s T ∧ most = mvT s T z ∧ ∀ T', VAl s t0 z T' → csT s T' < c → mvT s T' z ≤ mvT s T z ∧ (csT s T' < csT s T → mvT s T' z < mvT s T z)
def bestA (s t0 z T : Int → Int) : Prop := VAl s t0 z T ∧ ∀ T', VAl s t0 z T' → mvT s T' z ≤ mvT s T z ∧ (csT s T' < csT s T → mvT s T' z < mvT s T z)
section VAL
variable {h h1 h2 h' h0 g0 g : AH} {qa0 qa ac la tw : Nat} {postV : AH → Prop} {post : AH → Int32 → Prop} {a b c c' d f i j k v w x y pl r hr how gl goal st u p q l o dn ls best most : Int} {s t t' t0 z T T' : Int → Int} {S R0 : BS} {zr : Int64}
theorem VAl_inj (gs : GS s) (fw : few s) (e : EZ z s) (A : VAl s t0 z T) (B : VAl s t0 z T') (ee : csT s T = csT s T') : T = T' := by
  funext j
  by_cases c : 0 ≤ j ∧ j < 3 * s 2
  · have f3 := fw.1
    have n1 := csT_nIn gs fw e A.1 (r := j / 3) (by omega) (by omega)
    have n2 := csT_nIn gs fw e B.1 (r := j / 3) (by omega) (by omega)
    have k := nmr_inj fw e A.1 B.1 (r := j / 3) (by omega) (by omega) (by rw [← n1, ← n2, ee])
    by_cases c0 : j % 3 = 0
    · rw [show j = 3 * (j / 3) by omega]; exact k.1.symm
    by_cases c1 : j % 3 = 1
    · rw [show j = 3 * (j / 3) + 1 by omega]; exact k.2.1.symm
    · rw [show j = 3 * (j / 3) + 2 by omega]; exact k.2.2.symm
  · rw [A.2.2 j (by omega), B.2.2 j (by omega)]
theorem AB_low (A : AB s t0 z most st c) (gs : GS s) (le : c ≤ c') (lo : ∀ T, VAl s t0 z T → c ≤ csT s T → csT s T < c' → mvT s T z ≤ most) : AB s t0 z most st c' := by
  rcases A with ⟨a1, a2, a3⟩ | ⟨T, a1, a2, a3, a4, a5⟩
  · refine Or.inl ⟨a1, a2, fun T V u => ?_⟩
    have := a3 T V
    have := lo T V (by omega) u
    have := (mv_b (t := T) (z := z) gs).1.1
    omega
  · refine Or.inr ⟨T, a1, by omega, a3, a4, fun T' V u => ?_⟩
    by_cases w : csT s T' < c
    · exact a5 T' V w
    · have := lo T' V (by omega) u
      exact ⟨by omega, fun x => by omega⟩
theorem AB_take (A : AB s t0 z most st c) (gs : GS s) (fw : few s) (e : EZ z s) (V : VAl s t0 z T) (ec : csT s T = c) (gt : most < mvT s T z) : AB s t0 z (mvT s T z) c (c + 1) := by
  refine Or.inr ⟨T, V, by omega, ec.symm, rfl, fun T' V' u => ?_⟩
  by_cases w : csT s T' < c
  · rcases A with ⟨a1, a2, a3⟩ | ⟨T0, a1, a2, a3, a4, a5⟩
    · exact absurd w (a3 T' V')
    · have := (a5 T' V' w).1
      exact ⟨by omega, fun _ => by omega⟩
  · have : T' = T := VAl_inj gs fw e V' V (by omega)
    rw [this]
    exact ⟨Int.le_refl _, fun q => by omega⟩
theorem AB_fin (A : AB s t0 z most st c) (ex : ∃ T, VAl s t0 z T) (al : ∀ T, VAl s t0 z T → csT s T < c) : ∃ T, bestA s t0 z T ∧ st = csT s T ∧ most = mvT s T z := by
  rcases A with ⟨a1, a2, a3⟩ | ⟨T, a1, a2, a3, a4, a5⟩
  · obtain ⟨T, V⟩ := ex
    exact absurd (al T V) (a3 T V)
  · exact ⟨T, ⟨a1, fun T' V => a5 T' V (al T' V)⟩, a3, a4⟩
theorem csT_dig (gs : GS s) (fw : few s) (e : EZ z s) (W : LYS s T z) : csT s T = 4096 * nmr s T 0 + 64 * nmr s T 1 + nmr s T 2 ∧ (0 ≤ nmr s T 0 ∧ nmr s T 0 < cntB s 0) ∧ (0 ≤ nmr s T 1 ∧ nmr s T 1 < cntB s 1) ∧ (0 ≤ nmr s T 2 ∧ nmr s T 2 < cntB s 2) := ⟨rfl, nmr_W gs fw e W (by omega) (by omega), nmr_W gs fw e W (by omega) (by omega), nmr_W gs fw e W (by omega) (by omega)⟩
theorem Fit_va (F : Fit s) : ∃ T, VAl s t0 (zC s) T := by
  obtain ⟨t, V, g, -⟩ := F
  have k := fun r (r0 : 0 ≤ r) (r1 : r < s 2) => spot_c (s := s) (z := zC s) (t := t) (t' := mrg s t0 t) (o := r) (mrg_in (by omega) (by omega)) (mrg_in (by omega) (by omega)) (mrg_in (by omega) (by omega))
  have V' : VT s (mrg s t0 t) (zC s) := V.cgB fun j j0 j1 => mrg_in j0 j1
  refine ⟨mrg s t0 t, V', fun a b a0 ab b1 k k0 k1 hh => ?_, fun j hj => mrg_out hj⟩
  have := g k k0 k1
  have k' := fun r (r0 : 0 ≤ r) (r1 : r < s 2) => spot_c (s := s) (z := zC s) (t := t) (t' := mrg s t0 t) (o := r) (mrg_in (by omega) (by omega)) (mrg_in (by omega) (by omega)) (mrg_in (by omega) (by omega))
  have ka := fun r (r0 : 0 ≤ r) (r1 : r < s 2) => And.intro (mrg_in (t := t0) (T := t) (s := s) (j := 3 * r) (by omega) (by omega)) (And.intro (mrg_in (t := t0) (T := t) (s := s) (j := 3 * r + 1) (by omega) (by omega)) (mrg_in (t := t0) (T := t) (s := s) (j := 3 * r + 2) (by omega) (by omega)))
  have key : ∀ x y, 0 ≤ x → x < s 2 → 0 ≤ y → y < s 2 → gapT (mrg s t0 t) (zC s) x y = gapT t (zC s) x y := fun x y x0 x1 y0 y1 => by
    unfold gapT
    rw [(k' x x0 x1).2.2.1, (k' x x0 x1).2.2.2.1, (k' y y0 y1).2.2.1, (k' y y0 y1).2.2.2.1, (ka x x0 x1).1, (ka x x0 x1).2.1, (ka y y0 y1).1, (ka y y0 y1).2.1]
  rw [key _ _ (by omega) (by omega) (by omega) (by omega)]
  exact this
theorem tn_at (r0 : 0 ≤ r) (r1 : r < s 2) (j0 : 0 ≤ j) (j1 : j < 3) : tn3 h s t0 p q l (3 * r + j) = ptS r (rd h 82 (40 * r + nm3 p q l r)) (3 * r + j) := by
  unfold tn3
  rw [if_pos (by omega), show (3 * r + j) / 3 = r by omega]
theorem tn_lys (fw : few s) (e : EZ z s) (L3 : BL3 h s) (hp : 0 ≤ p ∧ p < cntB s 0) (hq : 0 ≤ q ∧ q < cntB s 1) (hl : 0 ≤ l ∧ l < cntB s 2) : LYS s (tn3 h s t0 p q l) z ∧ ∀ r, 0 ≤ r → r < 3 → nmr s (tn3 h s t0 p q l) r = nm3 p q l r := by
  have f3 := fw.1
  have nb : ∀ r, 0 ≤ r → r < 3 → 0 ≤ nm3 p q l r ∧ nm3 p q l r < cntB s r := fun r r0 r1 => by
    unfold nm3
    by_cases c0 : r = 0
    · rw [if_pos c0, c0]; exact hp
    by_cases c1 : r = 1
    · rw [if_neg c0, if_pos c1, c1]; exact hq
    · rw [if_neg c0, if_neg c1, show r = 2 by omega]; exact hl
  have at' : ∀ r, 0 ≤ r → r < s 2 → tn3 h s t0 p q l (3 * r) = ptS r (rd h 82 (40 * r + nm3 p q l r)) (3 * r) ∧ tn3 h s t0 p q l (3 * r + 1) = ptS r (rd h 82 (40 * r + nm3 p q l r)) (3 * r + 1) ∧ tn3 h s t0 p q l (3 * r + 2) = ptS r (rd h 82 (40 * r + nm3 p q l r)) (3 * r + 2) := fun r r0 r1 => by
    have e0 := tn_at (h := h) (t0 := t0) (p := p) (q := q) (l := l) (j := 0) r0 r1 (by omega) (by omega)
    rw [Int.add_zero] at e0
    exact ⟨e0, tn_at r0 r1 (by omega) (by omega), tn_at r0 r1 (by omega) (by omega)⟩
  have sp : ∀ r, 0 ≤ r → r < s 2 → _ := fun r r0 r1 => L3.spot r0 (show r < 3 by omega) r1 (nb r r0 (by omega)).1 (nb r r0 (by omega)).2
  refine ⟨fun r r0 r1 => ?_, fun r r0 r3 => ?_⟩
  · obtain ⟨s1, s2, s3⟩ := sp r r0 r1
    obtain ⟨e0, e1, e2⟩ := at' r r0 r1
    have h8 := of_hd e r0 (show r < 8 by omega) s1.1 s1.2 s2
    have sc := spot_c (s := s) (z := z) e0 e1 e2
    exact ⟨sc.1.mpr h8.1, sc.2.2.2.2.1.mpr h8.2⟩
  · by_cases c : r < s 2
    · obtain ⟨s1, s2, s3⟩ := sp r r0 c
      obtain ⟨e0, e1, e2⟩ := at' r r0 c
      have lb := ltB_b (s := s) (r := r)
      have sc := spot_c (s := s) (z := z) e0 e1 e2
      unfold nmr
      rw [ite_t c, sc.2.1, pt_enc s1.1 (by omega), s3]
    · have := nb r r0 r3
      unfold cntB at this
      rw [ite_f c] at this
      unfold nmr
      rw [ite_f c]
      omega
theorem tn_out (hj : j < 0 ∨ 3 * s 2 ≤ j) : tn3 h s t0 p q l j = t0 j := by
  unfold tn3
  rw [if_neg (by omega)]
theorem tg_iff (gs : GS s) (fw : few s) (e : EZ z s) (v9 : ∀ k, 0 ≤ k → k < s 4 → s (135 + 4 * k + 2) ≤ 9) (ru : RUq s) (L3 : BL3 h s) (TT : TG3 h s) (W : LYS s T z) (hab : 0 ≤ a ∧ a < b ∧ b < 3) : zb (aJ h 86 ((3 * a + b) * 40 + nmr s T a).toNat) (nmr s T b) ↔ (b < s 2 → ¬ overT T z a b ∧ rpO s T z a b) := by
  have wa := nmr_W gs fw e W hab.1 (show a < 3 by omega)
  have wb := nmr_W gs fw e W (show 0 ≤ b by omega) hab.2.2
  have ca := cntB_b gs fw hab.1 (show a < 3 by omega)
  have cb := cntB_b gs fw (show 0 ≤ b by omega) hab.2.2
  have k := TT a b hab.1 hab.2.1 hab.2.2 (nmr s T a) (nmr s T b) wa.1 (by omega) wb.1 (by omega)
  by_cases c : a < s 2
  · rw [k.1, ← k.2]
    exact tog_iff gs fw e v9 ru L3 TT W hab.1 c (by omega) hab.2.2 (by omega)
  · refine ⟨fun _ u => by omega, fun _ => ?_⟩
    rw [k.1]
    have rc : rchV s a b = 99 := by
      rcases rchV_99 (a := a) (b := b) gs v9 with u | u
      · exact u.1
      · omega
    refine ⟨⟨wa.2, wb.2⟩, ?_, Or.inl rc⟩
    have ea : nmr s T a = 0 := by unfold nmr; rw [ite_f c]
    rw [ea, show 40 * a + 0 = 40 * a by omega, ((L3 a hab.1 (by omega)).2 (by omega)).2]
    exact (z_and0 _ _).mpr fun k _ _ q => zb_0 _ q.1
theorem VAl_of3 (fw : few s) (W : LYS s T z) (ho : ∀ j, j < 0 ∨ 3 * s 2 ≤ j → T j = t0 j) (h3 : ∀ a b, 0 ≤ a → a < b → b < 3 → b < s 2 → ¬ overT T z a b ∧ rpO s T z a b) : VAl s t0 z T := by
  have f3 := fw.1
  refine ⟨fun r r0 r1 => ⟨(W r r0 r1).1, (W r r0 r1).2, fun o o0 o1 ne => ?_⟩, fun a b a0 ab b1 => (h3 a b a0 ab (by omega) b1).2, ho⟩
  by_cases c : r < o
  · exact (h3 r o r0 c (by omega) o1).1
  · exact fun u => (h3 o r o0 (by omega) (by omega) r1).1 (over_sym.mp u)
theorem VAl_to3 (A : VAl s t0 z T) (a0 : 0 ≤ a) (ab : a < b) (b1 : b < s 2) : ¬ overT T z a b ∧ rpO s T z a b := ⟨(A.1 a a0 (by omega)).2.2 b (by omega) b1 (by omega), A.2.1 a b a0 ab b1⟩
theorem sb_lf (gs : GS s) (w0 : 0 ≤ w) (w1 : w < 32) : sb (lfT s t z) w ↔ w < s 5 ∧ ¬ soT s t z w := by
  have n5 := gs.1.2.2.2.2.2.2.1
  have s5 := gs.1.1 5 (by omega) (by omega)
  unfold lfT
  rw [sb_bits w0 w1 _ (by omega), show (((s 5).toNat : Nat) : Int) = s 5 by omega]
theorem lf_eq (gs : GS s) {X : Int32} (hX : ∀ w, 0 ≤ w → w < 32 → (sb X w ↔ w < s 5 ∧ ¬ soT s t z w)) : X = lfT s t z := sb_ext fun w w0 w1 => by rw [hX w w0 w1, sb_lf gs w0 w1]
end VAL
