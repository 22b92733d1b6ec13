/-! best() in both -/
def bkOk (s : Int → Int) (k hr : Int) : Prop := (0 ≤ k ∧ k ≤ 60) ∧ (0 ≤ hr ∧ hr < 24) ∧ few s
section XBE
variable {h h1 h2 h3 h' h0 g : AH} {i la fr qa ac qa' ac' : Nat} {K : AH → Prop} {postV : AH → Prop} {post : AH → Int32 → Prop} {a b c d f j k v w x y pl r hr how goal st u : Int} {s t z X F B : Int → Int} {S R0 : BS}
theorem cX_best (I : Inv h i la fr qa ac) (hi512 : i ≤ 512) (hk : -2147483648 ≤ k ∧ k < 2147483648) (hx : -2147483648 ≤ hr ∧ hr < 2147483648)
    (KN : ¬ bkOk (rd h 94) k hr → post h (iI (-2)))
    (K1 : ∀ h' qa' ac' best pl, bkOk (rd h 94) k hr → finB (fun v => mvT (rd h 94) (tuB (rd h 94) (tS (rd h 94)) v) (zC (rd h 94))) (runB (rd h 94) hr (-1) k) best pl → SO h h' qa ac qa' ac' (dpt (runB (rd h 94) hr (-1) k).2.2.1 pl) (fun j => dcd ((runB (rd h 94) hr (-1) k).2.2.2 (anc (runB (rd h 94) hr (-1) k).2.2.1 j pl))) → post h' (iI best)) : wp_X11_best h 0 (iI k) (iI hr) post := by
  obtain ⟨S, M, hl, hp, H, L, T, hG, hZ⟩ := I.core
  have bdd := hG.bd
  obtain ⟨q1, q2, q3, q4, q5, q6, q7, q8, q9, q10, q11⟩ := I.q
  have n0 : 119 ≤ aN h := I.lt (a := 118) (by omega)
  have rm := I.room hi512
  obtain ⟨-, hL, -, -, ⟨_, _, _, ru, v9⟩, -⟩ := id hG
  rw [show (iI (-2)) = (-2 : Int32) from rfl] at KN
  unfold wp_X11_best
  rw [show (0 : Int32) = iI 0 from rfl, show (60 : Int32) = iI 60 from rfl, iI_lt hk.1 hk.2 (by omega) (by omega), iI_lt (by omega) (by omega) hk.1 hk.2]
  refine ⟨fun u => KN fun q => by have := q.1; omega, fun k0 => ⟨fun u => KN fun q => by have := q.1; omega, fun k1 => (c_isHour hx.1 hx.2).mpr ?_⟩⟩
  by_cases c2 : 0 ≤ hr ∧ hr < 24
  case neg => rw [bP_f c2]; exact ⟨fun _ => KN fun q => c2 q.2.1, fun q => absurd rfl q⟩
  rw [bP_t c2]
  refine ⟨fun q => absurd q i10, fun _ => ⟨S.o0, 31, S.p0_5, S.o31, la, hp, H.o0, c_isSmall H L bdd.1 bdd.2.1 bdd.2.2.1 (fun fw => ⟨fun _ => ?_, fun q => absurd q i10⟩) (fun nf => ⟨fun q => absurd rfl q, fun _ => KN fun q => nf q.2.2⟩)⟩⟩
  refine ⟨S.o0, 74, S.p0_14, S.o0, 31, S.p0_5, S.o31, la, hp, S.o0, 31, S.p0_5, S.o31, 53, S.p31_1, S.o74, ?_⟩
  exact c_mostMet (R0 := runB (rd h 94) hr (-1) k) S H L hl hG.1 hL fw (EZ.c _) v9 ru T hG.vt c2 (by omega) n0 (by omega) q1 q2 q3 q4 q5 q6 q10 q11 rfl (fun h' qa' ac' best pl fin O => K1 h' qa' ac' best pl ⟨by omega, c2, fw⟩ fin O)
theorem mX_best (M : MSh h) (Z : Z24 h) (hG : GA (rd h 94)) (hk : -2147483648 ≤ k ∧ k < 2147483648) (hx : -2147483648 ≤ hr ∧ hr < 2147483648)
    (KN : ∀ h', ¬ bkOk (rd h 94) k hr → Fr [92, 99, 100] [] [] h h' → (∀ j, j ∈ QW → rd h' 92 j = rd h 92 j) → Z24 h' → post h' (iI (-2)))
    (K1 : ∀ h' best pl, bkOk (rd h 94) k hr → BI (VB (rd h 94) (tS (rd h 94)) (zC (rd h 94))) 0 (5 * rd h 94 2) (runB (rd h 94) hr (-1) k) → finB (fun v => mvT (rd h 94) (tuB (rd h 94) (tS (rd h 94)) v) (zC (rd h 94))) (runB (rd h 94) hr (-1) k) best pl → Fr [92, 99, 100, 104, 105, 106, 107, 108] [] [] h h' → (∀ j, j ∈ QW → j ≠ 40 → rd h' 92 j = rd h 92 j) → rd h' 92 40 = dpt (runB (rd h 94) hr (-1) k).2.2.1 pl → (∀ n : Nat, (n : Int) < dpt (runB (rd h 94) hr (-1) k).2.2.1 pl → rd h' 108 (dpt (runB (rd h 94) hr (-1) k).2.2.1 pl - 1 - n) = dcd ((runB (rd h 94) hr (-1) k).2.2.2 (anc (runB (rd h 94) hr (-1) k).2.2.1 n pl))) → Z24 h' → post h' (iI best)) : wp_X12_best h 92 (iI k) (iI hr) post := by
  have bd := hG.bd
  have gs := hG.1
  have e := EZ.c (rd h 94)
  have q41 : (41 : Int) ∉ QW := by decide
  have j41 : ∀ j, j ∈ QW → j ≠ 41 := fun j hj e => q41 (by rw [← e]; exact hj)
  unfold wp_X12_best
  refine ⟨M.o0, fun h1 e1 => ?_⟩
  obtain ⟨M1, q1, f1, r1, -⟩ := m_thr0 M Z e1
  have e94 : rd h1 94 = rd h 94 := f1.row (by decide)
  have F1 : Fr [92, 99, 100] [] [] h h1 := f1.mono (by simp) (by simp) (by simp)
  rw [show (iI (-2)) = (-2 : Int32) from rfl] at KN
  have no : ¬ bkOk (rd h 94) k hr → post h1 (-2) := fun n => KN h1 n F1 q1.2.1 q1.2.2
  rw [show (0 : Int32) = iI 0 from rfl, show (60 : Int32) = iI 60 from rfl, m_isIn hk.1 hk.2 (by omega) (by omega) (by omega) (by omega)]
  by_cases c1 : 0 ≤ k ∧ k ≤ 60
  case neg => rw [bP_f c1]; exact ⟨fun _ => no fun q => c1 q.1, fun q => absurd rfl q⟩
  rw [bP_t c1]
  refine ⟨fun q => absurd q i10, fun _ => (m_isHour hx.1 hx.2).mpr ?_⟩
  by_cases c4 : 0 ≤ hr ∧ hr < 24
  case neg => rw [bP_f c4]; exact ⟨fun _ => no fun q => c4 q.2.1, fun q => absurd rfl q⟩
  rw [bP_t c4]
  have pr : 0 ≤ rd h 94 0 * rd h 94 1 ∧ rd h 94 0 * rd h 94 1 ≤ 64 := ⟨Int.mul_nonneg bd.1.1 bd.2.1.1, Int.le_trans (Int.mul_le_mul bd.1.2 bd.2.1.2 bd.2.1.1 (by omega)) (by decide)⟩
  refine ⟨fun q => absurd q i10, fun _ => ⟨M1.o0, (m_isFew M1 (by rw [e94]; exact bd.2.2.1.1) (by rw [e94]; exact bd.2.2.1.2) (by rw [e94]; exact pr.1) (by rw [e94]; exact pr.2)).mpr ?_⟩⟩
  rw [e94]
  by_cases c5 : few (rd h 94)
  case neg => rw [bP_f (show ¬ (rd h 94 2 ≤ 3 ∧ rd h 94 0 * rd h 94 1 ≤ 25) from c5)]; exact ⟨fun q => absurd rfl q, fun _ => no fun q => c5 q.2.2⟩
  rw [bP_t (show rd h 94 2 ≤ 3 ∧ rd h 94 0 * rd h 94 1 ≤ 25 from c5)]
  have ok : bkOk (rd h 94) k hr := ⟨c1, c4, c5⟩
  rw [show (-1 : Int32) = iI (-1) from rfl]
  refine ⟨fun _ => ⟨M1.o0, m_rings M1 q1.2.2 e94 gs c5 hG.vt c4 (by omega) (by omega) fun h2 S M2 F2 P q41' I eS r92 t99 z100 => ?_⟩, fun q => absurd q i10⟩
  rw [← eS] at K1
  have t64 := I.le64 gs c5 e
  have t1 := I.1
  generalize hs : rd h 94 = s at *
  have d94 : rd h2 94 = s := by rw [F2.row (by simp)]; exact e94
  have b2 := bd.2.2.1
  -- one TOWN of the queue weighed
  have one : ∀ {g : AH} {j : Int} {postV : AH → Prop}, Fr [99] [] [] h2 g → (∀ j, j < 0 ∨ 3 * s 2 ≤ j → rd g 99 j = tS s j) → 0 ≤ j → j < S.1 → (∀ g', Fr [99] [] [] h2 g' → MSh g' → (∀ j, j < 0 ∨ 3 * s 2 ≤ j → rd g' 99 j = tS s j) → (∀ post : AH → Int32 → Prop, post g' (iI (mvT s (tuB s (tS s) (S.2.1 j)) (zC s))) → wp_X12_met g' 92 post) → postV g') → wp_X12_unfold g 92 (iI (S.2.1 j)) postV := fun {g j postV} Fg ho j0 j1 nx => by
    have vi := I.2.1 j j0 j1
    have V := vi.2
    have vb := rg_b vi.1
    have Mg := M2.gr Fg.gr
    have g94 : rd g 94 = s := by rw [Fg.row (by simp)]; exact d94
    have g100 : rd g 100 = zC s := by rw [Fg.row (by simp)]; exact z100
    refine m_unfold Mg g94 rfl b2.1 c5.1 (fun s2 => ?_) bd.1.2 vb fun g' F' r' => ?_
    · have V0 := hG.vt 0 (by omega) s2
      have wz := wd_Z V0.1.P1 (Z1.of e gs.2.1 (r := 0) (by omega) s2 b2.2)
      have in0 := V0.2.1
      unfold insT at in0
      omega
    · have et : tuB s (rd g 99) (S.2.1 j) = tuB s (tS s) (S.2.1 j) := tuB_cg ho
      rw [et] at r'
      have M' := Mg.gr F'.gr
      have a94 : rd g' 94 = s := by rw [F'.row (by simp)]; exact g94
      have a100 : rd g' 100 = zC s := by rw [F'.row (by simp)]; exact g100
      refine nx g' (Fg.trans F') M' (fun j hj => by rw [r', tu_n hj]) fun post hp => ?_
      refine (m_met M' (by rw [a94]; exact gs.1.1) (by rw [a94]; exact ⟨b2.2, gs.1.2.2.2.2.2.2.1⟩) (by rw [a94]; exact gs.1.2.2.2.2.2.2.2.2) (by rw [a94, r', a100]; exact fun o o0 o1 => RBd.of (V o o0 o1).1.P1 (Z1.of e gs.2.1 o0 o1 b2.2))).mpr ?_
      rw [a94, r', a100, Int.sub_zero]
      exact hp
  have mb := fun j => (mv_b (t := tuB s (tS s) (S.2.1 j)) (z := zC s) gs).1
  have qe : ∀ {g : AH} {j : Int}, Fr [99] [] [] h2 g → 0 ≤ j → j < S.1 → aI g 107 (iI j).toNatClampNeg = iI (S.2.1 j) := fun {g j} Fg j0 j1 => by
    rw [iI_cl j0 (by omega), rd_I _ _ j0, Fg.row (by simp), P.qu j j0 j1]
  have F22 : Fr [99] [] [] h2 h2 := (Fr.refl h2).mono (by simp) (by simp) (by simp)
  refine ⟨M2.o0, 107, M2.p38, M2.o15, iI_in (by omega) (by rw [M2.l15]; omega) (by rw [M2.l15]; omega), fun v ev => ?_⟩
  rw [qe F22 (Int.le_refl _) (by omega)] at ev
  rw [ev]
  refine ⟨M2.o0, one F22 t99 (Int.le_refl _) (by omega) fun g1 G1 N1 o1 me1 => ⟨N1.o0, me1 _ ?_⟩⟩
  rw [show (1 : Int32) = iI 1 from rfl]
  refine (lf_for (W := fun n (b : AH × Int × Int) j => wl_X12_best_60 post n b.1 92 (iI (S.2.1 b.2.2)) (iI b.2.1) (iI j)) (lo := 1) (hi := S.1) (fun j b => Fr [99] [] [] h2 b.1 ∧ (∀ j, j < 0 ∨ 3 * s 2 ≤ j → rd b.1 99 j = tS s j) ∧ bstI (fun v => mvT s (tuB s (tS s) v) (zC s)) S.2.1 j b.2.1 b.2.2) t1 (fun n b j j0 j1 J nx => ?_) (fun n b J => ?_) (g1, mvT s (tuB s (tS s) (S.2.1 0)) (zC s), 0) ⟨G1, o1, Or.inr ⟨by show (0 : Int) ≤ 0 ∧ (0 : Int) < 1; omega, rfl, fun j j0 j1 => by
    rw [show j = 0 by omega]
    exact Int.le_refl _, fun j j0 j1 => by
    have j1 : j < 0 := j1
    omega⟩⟩)
  · obtain ⟨g, best, pl⟩ := b
    obtain ⟨Fg, og, J⟩ := J
    have Fg : Fr [99] [] [] h2 g := Fg
    have J : bstI (fun v => mvT s (tuB s (tS s) v) (zC s)) S.2.1 j best pl := J
    have Mg := M2.gr Fg.gr
    have g41 : rd g 92 41 = S.1 := by rw [Fg.row (by simp)]; exact q41'
    have st := J.step (Q' := S.2.1) (by omega) (fun _ _ => rfl) (fun v => (mv_b (t := tuB s (tS s) v) (z := zC s) gs).1.1)
    have bb : 0 ≤ best ∧ best ≤ 990 := by
      rcases J with ⟨j1, j2, j3⟩ | ⟨j1, j2, j3, j4⟩
      · omega
      · have := mb pl
        have j2 : best = mvT s (tuB s (tS s) (S.2.1 pl)) (zC s) := j2
        omega
    show wb_X12_best_60 (wl_X12_best_60 post n) g 92 (iI (S.2.1 pl)) (iI best) (iI j) post
    have i41 : aI g 92 41 = iI S.1 := by rw [← g41]; exact rd_I g 92 (i := 41) (by omega)
    have iv : ∀ {v : Int32}, v = iI j + 1 → v = iI (j + 1) := fun {v} e => by rw [e, show (1 : Int32) = iI 1 from rfl, iI_add]
    refine ⟨Mg.o0, fun u => ?_, fun _ => ⟨Mg.o0, 107, Mg.p38, Mg.o15, iI_in (by omega) (by rw [Mg.l15]; omega) (by rw [Mg.l15]; omega), Mg.o0, ?_⟩⟩
    · rw [i41, iI_le (by omega) (by omega) (by omega) (by omega)] at u
      omega
    rw [qe Fg (by omega) j1]
    have mj := mb j
    refine one Fg og (by omega) j1 fun g2 G2 N2 o2 me2 => ⟨N2.o0, me2 _ ⟨fun lt => ⟨N2.o0, me2 _ ⟨N2.o0, 107, N2.p38, N2.o15, iI_in (by omega) (by rw [N2.l15]; omega) (by rw [N2.l15]; omega), fun v ev v2 e2 => ?_⟩⟩, fun nl v2 e2 => ?_⟩⟩
    · rw [qe G2 (by omega) j1] at ev
      rw [ev, iv e2]
      rw [iI_lt (by omega) (by omega) (by omega) (by omega)] at lt
      exact nx (g2, _, j) ⟨G2, o2, st.2 (by show ¬ mvT s (tuB s (tS s) (S.2.1 j)) (zC s) ≤ best; omega)⟩
    · rw [iv e2]
      rw [iI_lt (by omega) (by omega) (by omega) (by omega)] at nl
      exact nx (g2, best, pl) ⟨G2, o2, st.1 (by show mvT s (tuB s (tS s) (S.2.1 j)) (zC s) ≤ best; omega)⟩
  · obtain ⟨g, best, pl⟩ := b
    obtain ⟨Fg, og, J⟩ := J
    have Fg : Fr [99] [] [] h2 g := Fg
    have og : ∀ j, j < 0 ∨ 3 * s 2 ≤ j → rd g 99 j = tS s j := og
    have J : bstI (fun v => mvT s (tuB s (tS s) v) (zC s)) S.2.1 S.1 best pl := J
    have Mg := M2.gr Fg.gr
    have g41 : rd g 92 41 = S.1 := by rw [Fg.row (by simp)]; exact q41'
    have i41 : aI g 92 41 = iI S.1 := by rw [← g41]; exact rd_I g 92 (i := 41) (by omega)
    show wb_X12_best_60 (wl_X12_best_60 post n) g 92 (iI (S.2.1 pl)) (iI best) (iI S.1) post
    have fin : finB (fun v => mvT s (tuB s (tS s) v) (zC s)) S best pl := by
      rcases J with ⟨j1, j2, j3⟩ | ⟨j1, j2, j3, j4⟩
      · omega
      · exact ⟨j1, j2, j3, j4⟩
    have Pg : MRp g 104 105 106 107 125000 S := P.cg (Fg.row (by simp)) (Fg.row (by simp)) (Fg.row (by simp)) (Fg.row (by simp))
    have vp := rg_b (I.2.1 pl fin.1.1 fin.1.2).1
    refine ⟨Mg.o0, fun _ => ⟨Mg.o0, m_keepFound Mg Pg I gs c5 e vp (fun ns => absurd ⟨pl, fin.1.1, fin.1.2, rfl⟩ ns) fun pl' p0 p1 pg g3 G3 e40 eo y => ?_⟩, fun u => absurd ?_ u⟩
    · have ep : pl' = pl := I.2.2.1 pl' pl p0 p1 fin.1.1 fin.1.2 pg
      rw [ep] at e40 y
      have Fa : Fr [92, 99, 100, 104, 105, 106, 107, 108] [] [] h g := (F1.mono (by simp) (by simp) (by simp)).trans ((F2.mono (by simp) (by simp) (by simp)).trans (Fg.mono (by simp) (by simp) (by simp)))
      refine K1 g3 best pl ok I fin (Fa.trans (G3.mono (by simp) (by simp) (by simp))) (fun j hj h40 => by rw [eo j h40, Fg.row (by simp), r92 j (j41 j hj)]; exact q1.2.1 j hj) e40 y ⟨fun j hj => ?_, fun j hj => ?_⟩
      · rw [G3.row (by simp), og j (by omega)]
        unfold tS
        rw [if_neg (by omega)]
      · rw [G3.row (by simp), Fg.row (by simp), z100]
        unfold zC
        rw [if_neg (by omega)]
    · rw [i41, iI_le (by omega) (by omega) (by omega) (by omega)]
      exact Int.le_refl _
theorem x_best (I : Inv h i la fr qa ac) (hi : i ≤ 512) (pa : -2147483648 ≤ k) (pa' : k < 2147483648) (p0 : -2147483648 ≤ hr) (p0' : hr < 2147483648) (hK : ∀ h2, RtI (i + 1) h2 → K h2) : wp_X11_best h 0 (iI k) (iI hr) (fun h1 v1 => ob h1 92 11 ∧ wp_X12_best h1 92 (iI k) (iI hr) (Ag K v1)) := by
  have hG := I.ga
  have lt := fun (a : Nat) (ha : a ≤ 118) => I.lt ha
  have q11 := I.q.2.2.2.2.2.2.2.2.2.2
  have hk : -2147483648 ≤ k ∧ k < 2147483648 := ⟨pa, pa'⟩
  have hx : -2147483648 ≤ hr ∧ hr < 2147483648 := ⟨p0, p0'⟩
  refine cX_best I hi hk hx (fun nc => ?_) (fun h3 qa' ac' best pl c fin O => ?_)
  · refine ⟨I.m.o0, mX_best I.m I.z hG hk hx (fun h2 _ F2 m2 z2 => ?_) (fun h2 best pl c => absurd c nc)⟩
    exact Ag.same (hK _ (I.quiet (F2.mono (by simp) (by simp) (by simp)) m2 z2 (Nat.le_succ i)).rt)
  · have r1 : ∀ a, a ≤ 118 → 92 ≤ a → rd h3 a = rd h a := fun a ha hb => O.G.row (lt a ha) fun q => by
      unfold sGi at q
      simp only [List.mem_cons, List.not_mem_nil, or_false] at q
      omega
    have d94 := r1 94 (by omega) (by omega)
    have Z3 : Z24 h3 := by
      have z := I.z
      unfold Z24 at z ⊢
      rw [r1 99 (by omega) (by omega), r1 100 (by omega) (by omega)]
      exact z
    have M3 := I.m.gr O.G
    refine ⟨M3.o0, mX_best M3 Z3 (by rw [d94]; exact hG) hk hx (fun h2 nc => ?_) (fun h2 best' pl' c' I2 fin' F m2 e40 yy z2 => ?_)⟩
    · rw [d94] at nc; exact absurd c nc
    · rw [d94] at fin' I2 e40 yy
      obtain ⟨eb, ep⟩ := fin'.one fin
      rw [eb]
      rw [ep] at e40 yy
      have db := dpt_bd I2.fg pl.toNat pl (by omega) fin.1.1 fin.1.2
      exact Ag.same (hK _ (I.search O F (by simp) m2 z2 (Or.inr ⟨db.1, e40, yy⟩)).rt)
end XBE
