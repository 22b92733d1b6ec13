/-! .. one after the other, to the end -/
section MAQ
variable {h h1 h2 h' h0 g0 g : AH} {postV : AH → Prop} {post : AH → Int32 → Prop} {a b c c' d f i j k v w x y pl r hr how gl goal most st u p o N : Int} {s t t' t0 z T T' q : Int → Int} {S : BS}
theorem rem_I (v0 : 0 ≤ v) (v1 : v < 1000) (c0 : 0 < c) (c1 : c < 1000) : iI v - iI v / iI c * iI c = iI (v % c) ∧ iI v / iI c = iI (v / c) := by
  rw [iI_div v0 (by omega) c0 (by omega), iI_mul, iI_sub]
  refine ⟨?_, rfl⟩
  congr 1
  rw [Int.emod_def, Int.mul_comm]
theorem m_allLoop (gs : GS s) (hL : WLi s) (fw : few s) (hV : VT s (tS s) (zC s)) (R1 : 1 ≤ s 2) (K : ∀ h' most, MA h0 h' s (-1) most → post h' (iI most)) : ∀ (n : Nat) (h : AH) (d most : Int), MA h0 h s d most → muM (rd h 113) (2 * (s 0 * s 1)) d ≤ n → wl_X12_all_65 post (n + 1) h 92 (iI (s 0 * s 1)) (iI most) (iI d) := by
  have e := EZ.c s
  have hK : ROk s := gs.1.2.2.2.2.2.2.2.1
  have f3 := fw.1
  have n0 : s 0 ≤ 8 := gs.1.2.1
  have n1 : s 1 ≤ 8 := gs.1.2.2.1
  have n2 : s 2 ≤ 8 := gs.1.2.2.2.1
  have n5 := gs.1.2.2.2.2.2.2.1
  have b5 := gs.1.1 5 (by omega) (by omega)
  have hZ := fun o o1 (o2 : o < s 2) => Z1.of e gs.2.1 o1 o2 n2
  have ib := ins_bd gs e (LYS.vt hV) (r := 0) (by omega) (by omega)
  have C1 : 1 ≤ s 0 * s 1 := by
    have := mul_lt1 (a := s 0) (y := 0) (b := s 1) (by omega) (by omega) (by omega)
    omega
  have C25 : s 0 * s 1 ≤ 25 := fw.2
  intro n
  induction n with
  | zero =>
    intro h d most A mu
    by_cases c : d < 0
    · have ed : d = -1 := by have := A.db; omega
      subst ed
      show wb_X12_all_65 (wl_X12_all_65 post 0) h 92 (iI (s 0 * s 1)) (iI most) (iI (-1)) post
      exact ⟨fun _ => K h most A, fun u => absurd (by decide) u⟩
    · have := (mu_dn (q := rd h 113) (N := 2 * (s 0 * s 1)) (d := d) (by omega) (by have := A.db; omega) (A.td (by omega)).2 (fun o o0 o1 => (A.tr o o0 o1).1.2)).1
      omega
  | succ n ih =>
    intro h d most A mu
    show wb_X12_all_65 (wl_X12_all_65 post (n + 1)) h 92 (iI (s 0 * s 1)) (iI most) (iI d) post
    obtain ⟨MM, FF, s94, z10, t99, r92, db, tr, td, sp, bb⟩ := id A
    by_cases c : d < 0
    · have ed : d = -1 := by omega
      subst ed
      exact ⟨fun _ => K h most A, fun u => absurd (by decide) u⟩
    have td := td (by omega)
    have mud := mu_dn (q := rd h 113) (N := 2 * (s 0 * s 1)) (d := d) (by omega) (by omega) td.2 (fun o o0 o1 => (tr o o0 o1).1.2)
    have bo : ∀ o, 0 ≤ o → o < d → 1 ≤ rd h 113 o ∧ rd h 113 o ≤ 50 := fun o o0 o1 => by have := (tr o o0 o1).1; omega
    have pl := pos_le (q := rd h 113) (d := d) (by omega) (by omega) (by omega) (fun o o0 o1 => (bo o o0 o1).2)
    have mb : -1 ≤ most ∧ most ≤ 990 := by
      rcases bb with ⟨a1, _⟩ | ⟨T, a1, a2, a3, _⟩
      · omega
      · have := mv_b (t := T) (z := zC s) gs; omega
    obtain ⟨v, hv⟩ : ∃ v, rd h 113 d = v := ⟨_, rfl⟩
    rw [hv] at td
    have iv2 : aI h 113 (iI d).toNatClampNeg = iI v := by rw [iI_cl (by omega) (by omega), rd_I _ _ (by omega), hv]
    unfold wb_X12_all_65
    refine ⟨fun u => ?_, fun _ => ⟨MM.o0, 113, MM.p46, MM.o21, iI_in (by omega) (by rw [MM.l21]; omega) (by rw [MM.l21]; omega), fun w ew => ⟨MM.o0, 113, MM.p46, MM.o21, iI_in (by omega) (by rw [MM.l21]; omega) (by rw [MM.l21]; omega), MM.o21, iI_in (by omega) (by rw [MM.l21]; omega) (by rw [MM.l21]; omega), fun h4 w4 => ?_⟩⟩⟩
    · rw [show (0 : Int32) = iI 0 from rfl, iI_lt (by omega) (by omega) (by omega) (by omega)] at u
      omega
    rw [iv2] at ew w4
    rw [show (1 : Int32) = iI 1 from rfl, iI_add, iI_cl (by omega) (by omega)] at w4
    obtain ⟨f4, r4⟩ := wI (i := d) (v := v + 1) (by omega) (by omega) (by omega) w4
    have M4 := MM.gr f4.gr
    rw [ew, show (2 : Int32) = iI 2 from rfl, iI_mul, iI_lt (by omega) (by omega) (by omega) (by omega)]
    have e113 : rd h4 113 = updT (rd h 113) d (rd h 113 d + 1) := by rw [r4, hv]
    have lowo : ∀ o, 0 ≤ o → o < d → rd h4 113 o = rd h 113 o := fun o o0 o1 => by rw [r4, updT_n (by omega)]
    refine ⟨fun lt => ?_, fun ge w5 e5 => ?_⟩
    case refine_2 =>
      -- no more numbers here
      rw [e5, show (-1 : Int32) = iI (-1) from rfl, iI_add, show d + -1 = d - 1 by omega]
      refine ih h4 (d - 1) most ⟨M4, FF.trans (f4.mono (by simp) (by simp) (by simp)), by rw [f4.row (by simp)]; exact s94, by rw [f4.row (by simp)]; exact z10, fun j hj => by rw [f4.row (by simp)]; exact t99 j hj, fun j j1 j2 => by rw [f4.row (by simp)]; exact r92 j j1 j2, by omega, fun o o0 o1 => by rw [lowo o o0 (by omega), f4.row (by simp)]; exact tr o o0 (by omega), fun d0 => by rw [lowo _ d0 (by omega)]; have := (tr (d - 1) d0 (by omega)).1; omega, fun o o0 o1 => by rw [f4.row (by simp)]; exact sp o o0 (by omega), ?_⟩ (by rw [e113]; omega)
      rw [e113]
      exact AMk_low bb gs pl.2.2 (fun T V u1 u2 => (win_n (q := rd h 113) gs fw e (LYS.vt V.1) (by omega) (by omega) bo (by omega) u1 u2).elim) (fun j _ => by rw [f4.row (by simp)]) (f4.row (by simp))
    -- the RAFT laid by its number
    have dv : (v < s 0 * s 1 ∧ v / (s 0 * s 1) = 0) ∨ (¬ v < s 0 * s 1 ∧ v / (s 0 * s 1) = 1) := by
      by_cases cv : v < s 0 * s 1
      · exact Or.inl ⟨cv, Int.ediv_eq_zero_of_lt (by omega) cv⟩
      · refine Or.inr ⟨cv, ?_⟩
        have := Int.add_mul_ediv_left (v - s 0 * s 1) (b := s 0 * s 1) 1 (by omega)
        rw [Int.mul_one, show v - s 0 * s 1 + s 0 * s 1 = v by omega, Int.ediv_eq_zero_of_lt (a := v - s 0 * s 1) (by omega) (by omega)] at this
        omega
    have cm : 0 ≤ v % (s 0 * s 1) ∧ v % (s 0 * s 1) < s 0 * s 1 := ⟨Int.emod_nonneg _ (by omega), Int.emod_lt_of_pos _ (by omega)⟩
    have xm : 0 ≤ v % (s 0 * s 1) % s 0 ∧ v % (s 0 * s 1) % s 0 < s 0 := ⟨Int.emod_nonneg _ (by omega), Int.emod_lt_of_pos _ (by omega)⟩
    have ym : 0 ≤ v % (s 0 * s 1) / s 0 ∧ v % (s 0 * s 1) / s 0 < s 1 := ⟨Int.ediv_nonneg cm.1 (by omega), Int.ediv_lt_of_lt_mul (by omega) (by rw [Int.mul_comm (s 1)]; exact cm.2)⟩
    have q1 := rem_I (v := v) (c := s 0 * s 1) (by omega) (by omega) (by omega) (by omega)
    have q2 := rem_I (v := v % (s 0 * s 1)) (c := s 0) cm.1 (by omega) (by omega) (by omega)
    have i940 : ∀ {g : AH}, rd g 94 = s → aI g 94 (0 : Int32).toNatClampNeg = iI (s 0) := fun {g} eg => by
      have := rd_I g 94 (i := 0) (Int.le_refl _)
      rw [eg] at this
      exact this
    have z0' : ¬ iI (s 0) = 0 := fun u => by
      rw [show (0 : Int32) = iI 0 from rfl, iI_eq (by omega) (by omega) (by omega) (by omega)] at u
      omega
    have zC' : ¬ iI (s 0 * s 1) = 0 := fun u => by
      rw [show (0 : Int32) = iI 0 from rfl, iI_eq (by omega) (by omega) (by omega) (by omega)] at u
      omega
    -- what stays of the invariant when the same RAFT is tried again
    have again : ∀ {g : AH} {m' : Int}, Fr [92, 99, 114] [] [] h4 g → (∀ j, j ≠ 48 → j ≠ 49 → rd g 92 j = rd h 92 j) → (∀ j, j < 3 * d ∨ 3 * d + 3 ≤ j → rd g 99 j = rd h 99 j) → AMk h0 g s m' (posM (updT (rd h 113) d (rd h 113 d + 1)) d) → wl_X12_all_65 post (n + 1) g 92 (iI (s 0 * s 1)) (iI m') (iI d) := fun {g m'} Fg g92 g99 Ag => by
      have G113 : rd g 113 = rd h4 113 := Fg.row (by simp)
      have at3 : ∀ o, 0 ≤ o → o < d → rd g 99 (3 * o) = rd h 99 (3 * o) ∧ rd g 99 (3 * o + 1) = rd h 99 (3 * o + 1) ∧ rd g 99 (3 * o + 2) = rd h 99 (3 * o + 2) := fun o o0 o1 => ⟨g99 _ (by omega), g99 _ (by omega), g99 _ (by omega)⟩
      refine ih g d m' ⟨M4.gr Fg.gr, FF.trans ((f4.mono (by simp) (by simp) (by simp)).trans (Fg.mono (by simp) (by simp) (by simp))), by rw [Fg.row (by simp), f4.row (by simp)]; exact s94, by rw [Fg.row (by simp), f4.row (by simp)]; exact z10, fun j hj => by rw [g99 j (by omega)]; exact t99 j hj, fun j j1 j2 => by rw [g92 j j1 j2]; exact r92 j j1 j2, by omega, fun o o0 o1 => ?_, fun _ => by rw [G113, r4, updT_s]; omega, fun o o0 o1 => ?_, by rw [G113, e113]; exact Ag⟩ (by rw [G113, e113]; omega)
      · rw [G113, lowo o o0 o1, (at3 o o0 o1).1, (at3 o o0 o1).2.1, (at3 o o0 o1).2.2]; exact tr o o0 o1
      · have := sp o o0 o1
        exact ⟨(spot_c (s := s) (z := zC s) (at3 o o0 o1).1 (at3 o o0 o1).2.1 (at3 o o0 o1).2.2).1.mpr this.1, fs_cg (T := rd h 99) (fun o' u0 u1 => ⟨(at3 o' u0 (by omega)).1.symm, (at3 o' u0 (by omega)).2.1.symm, (at3 o' u0 (by omega)).2.2.symm⟩) o0 hK this.2⟩
    -- behind the three writes
    have main : ∀ (tu : Int), tu = v / (s 0 * s 1) → ∀ g7 : AH, Fr [99] [] [] h4 g7 → rd g7 99 = updT (updT (rd h 99) (3 * d) (v % (s 0 * s 1) % s 0)) (3 * d + 1) (v % (s 0 * s 1) / s 0) → wb_X12_all_175 (wl_X12_all_65 post (n + 1)) g7 92 (iI (s 0 * s 1)) (iI most) (iI d) (iI tu) (iI tu) (iI (3 * d + 2)) 99 post := fun tu etu g7 F7 r7 => by
      have M7 := M4.gr F7.gr
      refine ⟨M7.o7, iI_in (by omega) (by rw [M7.l7]; omega) (by rw [M7.l7]; omega), fun g8 w8 => ?_⟩
      rw [iI_cl (by omega) (by omega)] at w8
      obtain ⟨f8, r8⟩ := wI (i := 3 * d + 2) (v := tu) (by omega) (by omega) (by omega) w8
      have M8 := M7.gr f8.gr
      have F48 : Fr [99] [] [] h4 g8 := F7.trans f8
      have t0' : rd g8 99 (3 * d) = v % (s 0 * s 1) % s 0 := by rw [r8, r7, updT_n (by omega), updT_n (by omega), updT_s]
      have t1' : rd g8 99 (3 * d + 1) = v % (s 0 * s 1) / s 0 := by rw [r8, r7, updT_n (by omega), updT_s]
      have t2' : rd g8 99 (3 * d + 2) = v / (s 0 * s 1) := by rw [r8, updT_s]; exact etu
      have g99 : ∀ j, j < 3 * d ∨ 3 * d + 3 ≤ j → rd g8 99 j = rd h 99 j := fun j hj => by rw [r8, r7, updT_n (by omega), updT_n (by omega), updT_n (by omega)]
      have g92 : ∀ j, rd g8 92 j = rd h 92 j := fun j => by rw [F48.row (by simp), f4.row (by simp)]
      have g94 : rd g8 94 = s := by rw [F48.row (by simp), f4.row (by simp)]; exact s94
      have g100 : rd g8 100 = zC s := by rw [F48.row (by simp), f4.row (by simp)]; exact z10
      have g114 : rd g8 114 = rd h 114 := by rw [F48.row (by simp), f4.row (by simp)]
      have Fa : Fr [92, 99, 114] [] [] h4 g8 := F48.mono (by simp) (by simp) (by simp)
      -- a TOWN with these numbers lies as t does
      have like : ∀ T, VAl s (tS s) (zC s) T → posM (rd h 113) d ≤ kM s T → kM s T < posM (updT (rd h 113) d (rd h 113 d + 1)) d → ∀ o, 0 ≤ o → o ≤ d → T (3 * o) = rd g8 99 (3 * o) ∧ T (3 * o + 1) = rd g8 99 (3 * o + 1) ∧ T (3 * o + 2) = rd g8 99 (3 * o + 2) := fun T V u1 u2 o o0 o1 => by
        obtain ⟨w1, w2⟩ := win_v (q := rd h 113) gs fw e (LYS.vt V.1) (by omega) (by omega) bo (by omega) u1 u2
        have dg := dig_v gs e (LYS.vt V.1) o0 (show o < s 2 by omega)
        by_cases co : o = d
        · subst co
          rw [w2, hv] at dg
          rw [t0', t1', t2']
          exact dg.2
        · rw [w1 o o0 (by omega)] at dg
          have q := tr o o0 (by omega)
          rw [g99 _ (by omega), g99 _ (by omega), g99 _ (by omega), q.2.1, q.2.2.1, q.2.2.2]
          exact dg.2
      have skip : (∀ T, VAl s (tS s) (zC s) T → posM (rd h 113) d ≤ kM s T → kM s T < posM (updT (rd h 113) d (rd h 113 d + 1)) d → mvT s T (zC s) ≤ most) → wl_X12_all_65 post (n + 1) g8 92 (iI (s 0 * s 1)) (iI most) (iI d) := fun hs => again Fa (fun j _ _ => g92 j) g99 (AMk_low bb gs pl.1 hs (fun j _ => g92 j) g114)
      -- not turned in vain
      have go : (zC s (3 * d) = zC s (3 * d + 1) → tu = 0) → wb_X12_all_202 (wl_X12_all_65 post (n + 1)) g8 92 (iI (s 0 * s 1)) (iI most) (iI d) post := fun sq => by
        have Sd : Spot (rd g8 99) (zC s) d := ⟨by rw [t0']; omega, by rw [t1']; omega, by rw [t2']; omega, fun q => by rw [t2', ← etu]; exact sq q⟩
        have So : ∀ o, 0 ≤ o → o ≤ d → Spot (rd g8 99) (zC s) o := fun o o0 o1 => by
          by_cases co : o = d
          · rw [co]; exact Sd
          · exact (spot_c (s := s) (z := zC s) (g99 _ (by omega)) (g99 _ (by omega)) (g99 _ (by omega))).1.mpr (sp o o0 (by omega)).1
        unfold wb_X12_all_202
        refine ⟨M8.o0, (m_fits M8 (by rw [g94]; exact gs) (by omega) (by rw [g94]; omega) (by rw [g100]; exact fun o o0 o1 => RBd.of (So o o0 o1).P1 (hZ o o0 (by omega)))).mpr ?_⟩
        rw [g94, g100]
        by_cases cf : fsT s (rd g8 99) (zC s) d
        case neg =>
          rw [bP_f cf]
          exact ⟨fun q => absurd rfl q, fun _ => skip fun T V u1 u2 => absurd (fs_cg (fun o o0 o1 => like T V u1 u2 o o0 o1) (by omega) hK (fs_of V hK (by omega) (by omega))) cf⟩
        rw [bP_t cf]
        have Sf : ∀ o, 0 ≤ o → o ≤ d → Spot (rd g8 99) (zC s) o ∧ fsT s (rd g8 99) (zC s) o := fun o o0 o1 => ⟨So o o0 o1, by
          by_cases co : o = d
          · rw [co]; exact cf
          · exact fs_cg (T := rd h 99) (fun o' u0 u1 => ⟨(g99 _ (by omega)).symm, (g99 _ (by omega)).symm, (g99 _ (by omega)).symm⟩) o0 hK (sp o o0 (by omega)).2⟩
        have i2 : ∀ {g : AH}, rd g 94 = s → aI g 94 (2 : Int32).toNatClampNeg = iI (s 2) := fun {g} eg => by
          have := rd_I g 94 (i := 2) (by omega)
          rw [eg] at this
          exact this
        have i5 : ∀ {g : AH}, rd g 94 = s → aI g 94 (5 : Int32).toNatClampNeg = iI (s 5) := fun {g} eg => by
          have := rd_I g 94 (i := 5) (by omega)
          rw [eg] at this
          exact this
        refine ⟨fun _ => ⟨M8.o0, 94, M8.p6, M8.o2, iI_in (a := 2) (by omega) (by rw [M8.l2]; omega) (by rw [M8.l2]; omega), fun fl => ⟨M8.o0, ?_⟩, fun nf w12 e12 => ?_⟩, fun q => absurd q i10⟩
        · -- all are laid
          rw [i2 g94, show (1 : Int32) = iI 1 from rfl, iI_add, iI_le (by omega) (by omega) (by omega) (by omega)] at fl
          have V : VAl s (tS s) (zC s) (rd g8 99) := va_fs (fun o o0 o1 => Sf o o0 (by omega)) (fun j hj => by rw [g99 j (by omega)]; exact t99 j hj)
          have one : ∀ T', VAl s (tS s) (zC s) T' → posM (rd h 113) d ≤ kM s T' → kM s T' < posM (updT (rd h 113) d (rd h 113 d + 1)) d → T' = rd g8 99 := fun T' V' u1 u2 => by
            have lk := like T' V' u1 u2
            funext j
            by_cases cj : 0 ≤ j ∧ j < 3 * s 2
            · have l := lk (j / 3) (by omega) (by omega)
              by_cases c0 : j % 3 = 0
              · rw [show j = 3 * (j / 3) by omega]; exact l.1
              by_cases c1 : j % 3 = 1
              · rw [show j = 3 * (j / 3) + 1 by omega]; exact l.2.1
              · rw [show j = 3 * (j / 3) + 2 by omega]; exact l.2.2
            · rw [V'.2.2 j (by omega), V.2.2 j (by omega)]
          have RB : ∀ o, 0 ≤ o → o < s 2 → RBd (rd g8 99) (zC s) o := fun o o0 o1 => RBd.of (So o o0 (by omega)).P1 (hZ o o0 o1)
          have mv := mv_b (t := rd g8 99) (z := zC s) gs
          refine (m_met M8 (by rw [g94]; exact gs.1.1) (by rw [g94]; exact ⟨n2, n5⟩) (by rw [g94]; exact gs.1.2.2.2.2.2.2.2.2) (by rw [g94, g100]; exact RB)).mpr ?_
          rw [g94, g100, Int.sub_zero]
          show (iI most < iI (mvT s (rd g8 99) (zC s)) → _) ∧ (¬ iI most < iI (mvT s (rd g8 99) (zC s)) → _)
          rw [iI_lt (by omega) (by omega) (by omega) (by omega)]
          refine ⟨fun gt => ⟨M8.o0, ?_⟩, fun ng => skip fun T' V' u1 u2 => by rw [one T' V' u1 u2]; omega⟩
          refine (m_soNow M8 (by rw [g94]; exact gs.1.1) (by rw [g94]; exact ⟨n2, n5⟩) (by rw [g94]; exact gs.1.2.2.2.2.2.2.2.2) (by rw [g94, g100]; exact RB)).mpr ?_
          rw [g94, g100, Int.sub_zero]
          refine ⟨M8.o0, 94, M8.p6, M8.o2, iI_in (a := 5) (by omega) (by rw [M8.l2]; omega) (by rw [M8.l2]; omega), M8.o0, fun g9 w9 => ?_⟩
          rw [i5 g94, show (31 : Int32) = iI 31 from rfl, iI_shm b5.1 (by omega), show (1 : Int32) = iI 1 from rfl, sh1_I b5.1 (by omega), iI_sub] at w9
          have lf : ((foldI (bitsF (soT s (rd g8 99) (zC s))) (s 5).toNat 0 (iI 0) ^^^ (-iI 1)) &&& iI (pw (s 5) - 1)) = lfT s (rd g8 99) (zC s) := lf_eq gs fun w w0 w1 => by
            rw [show (-iI 1) = (-1 : Int32) from rfl, sb_and, sb_not _ w0 w1, sb_bits w0 w1 _ (by omega), sb_all b5.1 n5 w0 w1, show (((s 5).toNat : Nat) : Int) = s 5 by omega]
            exact ⟨fun u => ⟨u.2, fun q => u.1 ⟨u.2, q⟩⟩, fun u => ⟨fun q => u.2 q.2, u.1⟩⟩
          rw [lf] at w9
          obtain ⟨f9, r9⟩ := wI' (i := 49) (by omega) w9
          have M9 := M8.gr f9.gr
          have k94 : rd g9 94 = s := by rw [f9.row (by simp)]; exact g94
          refine ⟨M9.o0, 94, M9.p6, M9.o2, iI_in (a := 2) (by omega) (by rw [M9.l2]; omega) (by rw [M9.l2]; omega), M9.o0, fun g10 w10 => ?_⟩
          rw [i2 k94] at w10
          obtain ⟨f10, r10⟩ := wI (i := 48) (v := s 2) (by omega) (by omega) (by omega) w10
          have F10 : Fr [92] [] [] g8 g10 := f9.trans f10
          have M10 := M8.gr F10.gr
          rw [show (0 : Int32) = iI 0 from rfl]
          refine lf_for (W := fun k (b : AH) j => wl_X12_all_290 (wl_X12_all_65 post (n + 1)) post k b 92 (iI (s 0 * s 1)) (iI (mvT s (rd g8 99) (zC s))) (iI d) (iI j)) (lo := 0) (hi := 24) (fun j b => Fr [114] [] [] g10 b ∧ ∀ j', 0 ≤ j' → j' < j → rd b 114 j' = rd g8 99 j') (by omega) (fun k b j j0 j1 J nx => ?_) (fun k b J => ?_) g10 ⟨(Fr.refl g10).mono (by simp) (by simp) (by simp), fun _ _ _ => by omega⟩
          · obtain ⟨Fb, J⟩ := J
            have Mb := M10.gr Fb.gr
            have b99 : rd b 99 = rd g8 99 := by rw [Fb.row (by simp), F10.row (by simp)]
            have bj := rd_bd b 99 j
            rw [b99] at bj
            show wb_X12_all_290 (wl_X12_all_65 post (n + 1)) (wl_X12_all_290 (wl_X12_all_65 post (n + 1)) post k) b 92 (iI (s 0 * s 1)) (iI (mvT s (rd g8 99) (zC s))) (iI d) (iI j) post
            unfold wb_X12_all_290
            simp (disch := omega) only [MSh.o0 Mb, MSh.p1 Mb, MSh.o1 Mb, MSh.l1 Mb, MSh.p6 Mb, MSh.o2 Mb, MSh.l2 Mb, MSh.p7 Mb, MSh.o3 Mb, MSh.l3 Mb, MSh.p8 Mb, MSh.o4 Mb, MSh.l4 Mb, MSh.p9 Mb, MSh.o5 Mb, MSh.l5 Mb, MSh.p10 Mb, MSh.o6 Mb, MSh.l6 Mb, MSh.p24 Mb, MSh.o7 Mb, MSh.l7 Mb, MSh.p25 Mb, MSh.o8 Mb, MSh.l8 Mb, MSh.p26 Mb, MSh.o9 Mb, MSh.l9 Mb, MSh.p32 Mb, MSh.o10 Mb, MSh.l10 Mb, MSh.p33 Mb, MSh.o11 Mb, MSh.l11 Mb, MSh.p35 Mb, MSh.o12 Mb, MSh.l12 Mb, MSh.p36 Mb, MSh.o13 Mb, MSh.l13 Mb, MSh.p37 Mb, MSh.o14 Mb, MSh.l14 Mb, MSh.p38 Mb, MSh.o15 Mb, MSh.l15 Mb, MSh.p39 Mb, MSh.o16 Mb, MSh.l16 Mb, MSh.p42 Mb, MSh.o17 Mb, MSh.l17 Mb, MSh.p43 Mb, MSh.o18 Mb, MSh.l18 Mb, MSh.p44 Mb, MSh.o19 Mb, MSh.l19 Mb, MSh.p45 Mb, MSh.o20 Mb, MSh.l20 Mb, MSh.p46 Mb, MSh.o21 Mb, MSh.l21 Mb, MSh.p47 Mb, MSh.o22 Mb, MSh.l22 Mb, MSh.p50 Mb, MSh.o23 Mb, MSh.l23 Mb, MSh.p51 Mb, MSh.o24 Mb, MSh.l24 Mb, MSh.p52 Mb, MSh.o25 Mb, MSh.l25 Mb, b99, -Int.reduceToNat, -Int32.reduceToNatClampNeg, il0, il1, il2, il3, il4, il5, il6, il7, il8, il9, il10, il11, il12, il13, il14, il15, il16, il17, il18, il19, il20, il21, il22, il23, il24, il25, il26, il27, il28, il29, il30, il31, il32, il35, il36, il38, il40, il42, il43, il44, il45, il46, il47, il48, il49, il50, il51, il52, il57, il59, il60, il63, il64, il75, il80, il95, il96, il97, il98, il99, il100, il120, il122, il123, il127, il128, il135, il167, il175, il225, il249, il250, il255, il256, il360, il370, il384, il600, il700, il740, il900, il940, il1024, il1600, il4800, il64000, il125000, il262143, il1000000000, iI_toInt, iI_add, iI_sub, iI_mul, iI_neg, iI_lt, iI_le, iI_eq, iI_n, iI_in, iI_div, iI_mod, iI_shm, iI_and1, iI_and7, iI_and63, iI_shr3, iI_shr6, rd_I, ob, Option.some.injEq, exists_eq_left', exists_eq_left, true_and, and_true, fqI, fqJ, eq_self, true_or, or_true, bP_0, bP_0i, npP, bP_1i, bP_b, not_true_eq_false, not_false_eq_true, false_implies, true_implies, implies_true, Classical.not_not, and_self]
            refine ⟨fun u => by omega, fun _ => ?_⟩
            intro g11 w11
            obtain ⟨f11, r11⟩ := wI (i := j) (by omega) (by omega) (by omega) w11
            refine nx g11 ⟨Fb.trans f11, fun j' u0 u1 => ?_⟩
            rw [r11]
            by_cases cj : j' = j
            · rw [cj, updT_s]
            · rw [updT_n cj]; exact J j' u0 (by omega)
          · obtain ⟨Fb, J⟩ := J
            show wb_X12_all_290 (wl_X12_all_65 post (n + 1)) (wl_X12_all_290 (wl_X12_all_65 post (n + 1)) post k) b 92 (iI (s 0 * s 1)) (iI (mvT s (rd g8 99) (zC s))) (iI d) (iI 24) post
            refine ⟨fun _ => ?_, fun u => absurd (by decide) u⟩
            have F8b : Fr [92, 114] [] [] g8 b := (F10.mono (by simp) (by simp) (by simp)).trans (Fb.mono (by simp) (by simp) (by simp))
            have kk : kM s (rd g8 99) = posM (rd h 113) d := by
              have vo : ∀ o, 0 ≤ o → o < s 2 → vM s (rd g8 99) o = if o = d then v else rd h 113 o - 1 := fun o o0 o1 => by
                unfold vM
                rw [if_pos o1]
                by_cases co : o = d
                · rw [if_pos co, co, t0', t1', t2', Int.mul_ediv_add_emod, Int.mul_ediv_add_emod]
                · have q := tr o o0 (by omega)
                  rw [if_neg co, g99 _ (by omega), g99 _ (by omega), g99 _ (by omega), q.2.1, q.2.2.1, q.2.2.2, Int.mul_ediv_add_emod, Int.mul_ediv_add_emod]
              unfold kM
              have cc : d = 0 ∨ d = 1 ∨ d = 2 := by omega
              rcases cc with rfl | rfl | rfl
              · rw [vo 0 (by omega) (by omega), vM_out (by omega), vM_out (by omega), if_pos rfl, pos_0, hv]; omega
              · rw [vo 0 (by omega) (by omega), vo 1 (by omega) (by omega), vM_out (by omega), if_neg (by omega), if_pos rfl, pos_1, hv]; omega
              · rw [vo 0 (by omega) (by omega), vo 1 (by omega) (by omega), vo 2 (by omega) (by omega), if_neg (by omega), if_neg (by omega), if_pos rfl, pos_2, hv]
            refine again (Fa.trans (F8b.mono (by simp) (by simp) (by simp))) (fun j j1 j2 => by rw [Fb.row (by simp), r10, updT_n j1, r9, updT_n j2]; exact g92 j) (fun j hj => by rw [F8b.row (by simp)]; exact g99 j hj) ?_
            refine AMk_take bb V kk pl.1 one gt pl.2.1 (by rw [Fb.row (by simp), r10, updT_s]) (by rw [Fb.row (by simp), r10, updT_n (by omega), r9, updT_s]) J
        · -- the next RAFT
          rw [i2 g94, show (1 : Int32) = iI 1 from rfl, iI_add, iI_le (by omega) (by omega) (by omega) (by omega)] at nf
          rw [show (1 : Int32) = iI 1 from rfl, iI_add] at e12
          rw [e12]
          refine ⟨M8.o0, 113, M8.p46, M8.o21, iI_in (by omega) (by rw [M8.l21]; omega) (by rw [M8.l21]; omega), fun g9 w9 => ?_⟩
          rw [iI_cl (by omega) (by omega), show (0 : Int32) = iI 0 from rfl] at w9
          obtain ⟨f9, r9⟩ := wI (i := d + 1) (v := 0) (by omega) (by omega) (by omega) w9
          have e9 : rd g9 113 = updT (updT (rd h 113) d (rd h 113 d + 1)) (d + 1) 0 := by rw [r9, F48.row (by simp), e113]
          have mi := mu_in (q := rd h 113) (N := 2 * (s 0 * s 1)) (d := d) (by omega) (by omega) (by omega)
          refine ih g9 (d + 1) most ⟨M8.gr f9.gr, FF.trans ((f4.mono (by simp) (by simp) (by simp)).trans ((F48.mono (by simp) (by simp) (by simp)).trans (f9.mono (by simp) (by simp) (by simp)))), by rw [f9.row (by simp)]; exact g94, by rw [f9.row (by simp)]; exact g100, fun j hj => by rw [f9.row (by simp), g99 j (by omega)]; exact t99 j hj, fun j j1 j2 => by rw [f9.row (by simp), g92 j]; exact r92 j j1 j2, by omega, fun o o0 o1 => ?_, fun _ => by rw [r9, updT_s]; omega, fun o o0 o1 => by rw [f9.row (by simp)]; exact Sf o o0 (by omega), ?_⟩ (by rw [e9]; omega)
          · rw [e9, updT_n (by omega), f9.row (by simp)]
            by_cases co : o = d
            · rw [co, updT_s, hv, t0', t1', t2', show v + 1 - 1 = v by omega]
              exact ⟨by omega, rfl, rfl, rfl⟩
            · rw [updT_n co, g99 _ (by omega), g99 _ (by omega), g99 _ (by omega)]
              exact tr o o0 (by omega)
          · rw [e9, pos_in (by omega) (by omega)]
            exact AMk_low bb gs (Int.le_refl _) (fun T V u1 u2 => by omega) (fun j _ => by rw [f9.row (by simp)]; exact g92 j) (by rw [f9.row (by simp)]; exact g114)
      have z100 : ∀ j, 0 ≤ j → aI g8 100 j.toNat = iI (zC s j) := fun j j0 => by rw [rd_I _ _ j0, g100]
      have zz := hZ d (by omega) (by omega)
      unfold Z1 at zz
      rcases dv with ⟨c1, c2⟩ | ⟨c1, c2⟩
      · refine ⟨fun _ => go fun _ => by omega, fun q => absurd ?_ q⟩
        rw [show tu = 0 by omega]
        rfl
      · refine ⟨fun q => ?_, fun _ => ⟨M8.o0, 100, M8.p25, M8.o8, ?_, M8.o0, 100, M8.p25, M8.o8, ?_, fun eq => ?_, fun ne => go fun sq => absurd ?_ ne⟩⟩
        · rw [show (0 : Int32) = iI 0 from rfl, iI_eq (by omega) (by omega) (by omega) (by omega)] at q
          omega
        · rw [show (3 : Int32) = iI 3 from rfl, iI_mul]
          exact iI_in (by omega) (by rw [M8.l8]; omega) (by rw [M8.l8]; omega)
        · rw [show (3 : Int32) = iI 3 from rfl, show (1 : Int32) = iI 1 from rfl, iI_mul, iI_add]
          exact iI_in (by omega) (by rw [M8.l8]; omega) (by rw [M8.l8]; omega)
        · rw [show (3 : Int32) = iI 3 from rfl, show (1 : Int32) = iI 1 from rfl, iI_mul, iI_add, iI_cl (by omega) (by omega), iI_cl (by omega) (by omega), z100 _ (by omega), z100 _ (by omega), iI_eq (by omega) (by omega) (by omega) (by omega)] at eq
          refine skip fun T V u1 u2 => ?_
          have l := like T V u1 u2 d (by omega) (Int.le_refl _)
          have s4 := (V.1 d (by omega) (by omega)).1.2.2.2 eq
          rw [l.2.2, t2'] at s4
          omega
        · rw [show (3 : Int32) = iI 3 from rfl, show (1 : Int32) = iI 1 from rfl, iI_mul, iI_add, iI_cl (by omega) (by omega), iI_cl (by omega) (by omega), z100 _ (by omega), z100 _ (by omega), sq]
    have lay : ∀ (tu : Int), tu = v / (s 0 * s 1) → wb_X12_all_112 (wl_X12_all_65 post (n + 1)) h4 92 (iI (s 0 * s 1)) (iI most) (iI d) (iI v) (iI tu) post := fun tu etu => by
      have c94 : rd h4 94 = s := by rw [f4.row (by simp)]; exact s94
      refine ⟨zC', fun w1 e1 => ⟨M4.o0, 99, M4.p24, M4.o0, 94, M4.p6, M4.o2, iI_in (a := 0) (by omega) (by rw [M4.l2]; omega) (by rw [M4.l2]; omega), by rw [i940 c94]; exact z0', M4.o7, ?_, fun g5 w5 => ?_⟩⟩
      · rw [show (3 : Int32) = iI 3 from rfl, iI_mul]
        exact iI_in (by omega) (by rw [M4.l7]; omega) (by rw [M4.l7]; omega)
      rw [q1.1] at e1
      rw [e1, i940 c94, q2.1, show (3 : Int32) = iI 3 from rfl, iI_mul, iI_cl (by omega) (by omega)] at w5
      obtain ⟨f5, r5⟩ := wI (i := 3 * d) (v := v % (s 0 * s 1) % s 0) (by omega) (by omega) (by omega) w5
      have M5 := M4.gr f5.gr
      have d94 : rd g5 94 = s := by rw [f5.row (by simp)]; exact c94
      refine ⟨M5.o0, 99, M5.p24, M5.o0, 94, M5.p6, M5.o2, iI_in (a := 0) (by omega) (by rw [M5.l2]; omega) (by rw [M5.l2]; omega), by rw [i940 d94]; exact z0', M5.o7, ?_, fun g6 w6 => ?_⟩
      · rw [show (3 : Int32) = iI 3 from rfl, show (1 : Int32) = iI 1 from rfl, iI_mul, iI_add]
        exact iI_in (by omega) (by rw [M5.l7]; omega) (by rw [M5.l7]; omega)
      rw [e1, i940 d94, q2.2, show (3 : Int32) = iI 3 from rfl, show (1 : Int32) = iI 1 from rfl, iI_mul, iI_add, iI_cl (by omega) (by omega)] at w6
      obtain ⟨f6, r6⟩ := wI (i := 3 * d + 1) (v := v % (s 0 * s 1) / s 0) (by omega) (by omega) (by omega) w6
      have M6 := M5.gr f6.gr
      have m6 := main tu etu g6 (f5.trans f6) (by rw [r6, r5, f4.row (by simp)])
      have e2 : ((3 : Int32) * iI d) + (2 : Int32) = iI (3 * d + 2) := by rw [show (3 : Int32) = iI 3 from rfl, show (2 : Int32) = iI 2 from rfl, iI_mul, iI_add]
      rw [← e2] at m6
      refine ⟨M6.o0, 99, M6.p24, fun z0 => ?_, fun nz => ?_⟩
      · have : tu = 0 := by
          rw [show (0 : Int32) = iI 0 from rfl, iI_eq (by omega) (by omega) (by omega) (by omega)] at z0
          exact z0
        rw [this] at m6 ⊢
        exact m6
      · have : tu = 1 := by
          rw [show (0 : Int32) = iI 0 from rfl, iI_eq (by omega) (by omega) (by omega) (by omega)] at nz
          omega
        rw [this] at m6 ⊢
        exact m6
    rw [iI_lt (by omega) (by omega) (by omega) (by omega)]
    rcases dv with ⟨c1, c2⟩ | ⟨c1, c2⟩
    · exact ⟨fun _ => lay 0 c2.symm, fun q => absurd c1 q⟩
    · exact ⟨fun q => absurd q c1, fun _ => lay 1 c2.symm⟩
end MAQ
