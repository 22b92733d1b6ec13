/-! LEAST in the model -/
section MLE
variable {h h1 h2 h' h0 g0 g : AH} {postV : AH → Prop} {post : AH → Int32 → Prop} {a b c d f i j k v w x y pl r hr how gl goal most st u p o : Int} {s t t' t0 z T : Int → Int} {S : BS}
theorem m_findTown (M : MSh h) (Z : Z24 h) (s94 : rd h 94 = s) (hG : GA s) (fw : few s) (hh : 0 ≤ hr ∧ hr < 24) (VG : VB s (tS s) (zC s) goal)
    (K0 : ∀ h', ¬ seenB (runL s (tS s) (zC s) hr goal) goal → Fr [92, 99, 100, 104, 105, 106, 107, 108] [] [] h h' → (∀ j, j ≠ 41 → rd h' 92 j = rd h 92 j) → rd h' 108 = rd h 108 → Z24 h' → post h' (iI (-1)))
    (K1 : ∀ h' pl, BI (VB s (tS s) (zC s)) 0 (5 * s 2) (runL s (tS s) (zC s) hr goal) → 0 ≤ pl → pl < (runL s (tS s) (zC s) hr goal).1 → (runL s (tS s) (zC s) hr goal).2.1 pl = goal → Fr [92, 99, 100, 104, 105, 106, 107, 108] [] [] h h' → (∀ j, j ≠ 40 → j ≠ 41 → rd h' 92 j = rd h 92 j) → rd h' 92 40 = dpt (runL s (tS s) (zC s) hr goal).2.2.1 pl → (∀ k : Nat, (k : Int) < dpt (runL s (tS s) (zC s) hr goal).2.2.1 pl → rd h' 108 (dpt (runL s (tS s) (zC s) hr goal).2.2.1 pl - 1 - k) = dcd ((runL s (tS s) (zC s) hr goal).2.2.2 (anc (runL s (tS s) (zC s) hr goal).2.2.1 k pl))) → Z24 h' → post h' (iI (dpt (runL s (tS s) (zC s) hr goal).2.2.1 pl))) :
    wp_X12_rings h 92 (iI hr) (iI 1000000000) (iI goal) (fun hv10 => ob hv10 92 11 ∧ wp_X12_keepFound hv10 92 (iI goal) post) := by
  have gs := hG.1
  have e := EZ.c s
  have b2 := gs.1.1 2 (by omega) (by omega)
  have f3 := fw.1
  have gb := rg_b VG.1
  obtain ⟨VS, _⟩ := VB.of (t0 := tS s) gs fw e hG.vt (fun _ _ => rfl)
  have er : runB s hr goal 1000000000 = runL s (tS s) (zC s) hr goal := run_LB gs fw e gb.1 64000 0 _ (BI.go VS) (by omega)
  refine m_rings M Z s94 gs fw hG.vt hh ⟨by omega, gb.2⟩ (by omega) fun h1 S M1 F1 P q41 I eS r92 t99 z100 => ⟨M1.o0, ?_⟩
  rw [er] at eS
  have Z1 : Z24 h1 := ⟨fun j hj => by
    rw [t99 j (by omega)]
    unfold tS
    rw [if_neg (by omega)], fun j hj => by
    rw [z100]
    unfold zC
    rw [if_neg (by omega)]⟩
  rw [← eS] at K0 K1
  refine m_keepFound M1 P I gs fw e gb (fun ns => K0 h1 ns (F1.mono (by simp) (by simp) (by simp)) r92 (F1.row (by simp)) Z1) (fun pl p0 p1 pg g Fg e40 eo y => ?_)
  refine K1 g pl I p0 p1 pg ((F1.mono (by simp) (by simp) (by simp)).trans (Fg.mono (by simp) (by simp) (by simp))) (fun j hj hj' => by rw [eo j hj, r92 j hj']) e40 y ?_
  unfold Z24
  rw [Fg.row (by simp), Fg.row (by simp)]
  exact Z1
theorem byC_off (j0 : j < 0 ∨ 24 ≤ j) : byC s T j = 0 := by
  unfold byC
  rw [if_neg (by omega)]
theorem VT.cgB (V : VT s t z) (ee : ∀ j, 0 ≤ j → j < 3 * s 2 → t' j = t j) : VT s t' z := fun r h1 h2 => by
  have k := fun o (o0 : 0 ≤ o) (o1 : o < s 2) => spot_c (s := s) (z := z) (t := t) (t' := t') (o := o) (ee _ (by omega) (by omega)) (ee _ (by omega) (by omega)) (ee _ (by omega) (by omega))
  obtain ⟨a, b, c⟩ := V r h1 h2
  refine ⟨(k r h1 h2).1.mpr a, (k r h1 h2).2.2.2.2.1.mpr b, fun o o0 o1 ne q => c o o0 o1 ne ?_⟩
  unfold overT ovX ovY at q ⊢
  rw [(k r h1 h2).2.2.1, (k r h1 h2).2.2.2.1, (k o o0 o1).2.2.1, (k o o0 o1).2.2.2.1, ee _ (by omega) (by omega), ee _ (by omega) (by omega), ee _ (by omega) (by omega), ee _ (by omega) (by omega)] at q
  exact q
theorem cdB_cg (b0 : 0 ≤ s 2) (b3 : s 2 ≤ 3) (ee : ∀ j, 0 ≤ j → j < 3 * s 2 → t' j = t j) : cdB s t' = cdB s t := by
  have k := fun r (r0 : 0 ≤ r) (r1 : r < s 2) => show plB s t' r = plB s t r by
    unfold plB
    rw [ee _ (by omega) (by omega), ee _ (by omega) (by omega), ee _ (by omega) (by omega)]
  unfold cdB
  have e : s 2 = 0 ∨ s 2 = 1 ∨ s 2 = 2 ∨ s 2 = 3 := by omega
  rcases e with e | e | e | e
  · rw [if_neg (by omega), if_neg (by omega), if_neg (by omega), if_neg (by omega), if_neg (by omega), if_neg (by omega)]
  · rw [if_pos (by omega), if_neg (by omega), if_neg (by omega), if_pos (by omega), if_neg (by omega), if_neg (by omega), k 0 (by omega) (by omega)]
  · rw [if_pos (by omega), if_pos (by omega), if_neg (by omega), if_pos (by omega), if_pos (by omega), if_neg (by omega), k 0 (by omega) (by omega), k 1 (by omega) (by omega)]
  · rw [if_pos (by omega), if_pos (by omega), if_pos (by omega), if_pos (by omega), if_pos (by omega), if_pos (by omega), k 0 (by omega) (by omega), k 1 (by omega) (by omega), k 2 (by omega) (by omega)]
/-- a TOWN with all that is not of its RAFTS as it is now -/
def mrg (s t T : Int → Int) : Int → Int := fun j => if 0 ≤ j ∧ j < 3 * s 2 then T j else t j
theorem mrg_in (h1 : 0 ≤ j) (h2 : j < 3 * s 2) : mrg s t T j = T j := by unfold mrg; rw [if_pos ⟨h1, h2⟩]
theorem mrg_out (h1 : j < 0 ∨ 3 * s 2 ≤ j) : mrg s t T j = t j := by unfold mrg; rw [if_neg (by omega)]
theorem mX_least (M : MSh h) (Z : Z24 h) (hG : GA (rd h 94)) (hl : 0 ≤ rd h 92 2 ∧ rd h 92 2 ≤ 940) (hx : -2147483648 ≤ hr ∧ hr < 2147483648) (hV : byOK (rd h 94) (bT h) (rd h 92 2) → VT (rd h 94) (byC (rd h 94) (bT h)) (zC (rd h 94)))
    (KN : ∀ h', ¬ (byOK (rd h 94) (bT h) (rd h 92 2) ∧ (0 ≤ hr ∧ hr < 24) ∧ few (rd h 94)) → Fr [92, 99, 100] [] [] h h' → (∀ j, j ∈ QW → j ≠ 2 → rd h' 92 j = rd h 92 j) → rd h' 92 2 = 0 → Z24 h' → post h' (iI (-2)))
    (K0 : ∀ h' goal, byOK (rd h 94) (bT h) (rd h 92 2) ∧ (0 ≤ hr ∧ hr < 24) ∧ few (rd h 94) → goal = cdB (rd h 94) (byC (rd h 94) (bT h)) → ¬ seenB (runL (rd h 94) (tS (rd h 94)) (zC (rd h 94)) hr goal) goal → Fr [92, 99, 100, 104, 105, 106, 107, 108] [] [] h h' → (∀ j, j ∈ QW → j ≠ 2 → rd h' 92 j = rd h 92 j) → rd h' 92 2 = 0 → rd h' 108 = rd h 108 → Z24 h' → post h' (iI (-1)))
    (K1 : ∀ h' goal pl, byOK (rd h 94) (bT h) (rd h 92 2) ∧ (0 ≤ hr ∧ hr < 24) ∧ few (rd h 94) → goal = cdB (rd h 94) (byC (rd h 94) (bT h)) → BI (VB (rd h 94) (tS (rd h 94)) (zC (rd h 94))) 0 (5 * rd h 94 2) (runL (rd h 94) (tS (rd h 94)) (zC (rd h 94)) hr goal) → 0 ≤ pl → pl < (runL (rd h 94) (tS (rd h 94)) (zC (rd h 94)) hr goal).1 → (runL (rd h 94) (tS (rd h 94)) (zC (rd h 94)) hr goal).2.1 pl = goal → Fr [92, 99, 100, 104, 105, 106, 107, 108] [] [] h h' → (∀ j, j ∈ QW → j ≠ 2 → j ≠ 40 → rd h' 92 j = rd h 92 j) → rd h' 92 2 = 0 → rd h' 92 40 = dpt (runL (rd h 94) (tS (rd h 94)) (zC (rd h 94)) hr goal).2.2.1 pl → (∀ k : Nat, (k : Int) < dpt (runL (rd h 94) (tS (rd h 94)) (zC (rd h 94)) hr goal).2.2.1 pl → rd h' 108 (dpt (runL (rd h 94) (tS (rd h 94)) (zC (rd h 94)) hr goal).2.2.1 pl - 1 - k) = dcd ((runL (rd h 94) (tS (rd h 94)) (zC (rd h 94)) hr goal).2.2.2 (anc (runL (rd h 94) (tS (rd h 94)) (zC (rd h 94)) hr goal).2.2.1 k pl))) → Z24 h' → post h' (iI (dpt (runL (rd h 94) (tS (rd h 94)) (zC (rd h 94)) hr goal).2.2.1 pl))) : wp_X12_least h 92 (iI hr) post := by
  have bd := hG.bd
  have gs := hG.1
  have nq : ∀ j, j ∈ QW → j ≠ 2 → j ∉ [(2 : Int), 3, 4, 5] := by decide
  have q41 : (41 : Int) ∉ QW := by decide
  unfold wp_X12_least
  refine ⟨M.o0, fun h1 e1 => ?_⟩
  obtain ⟨M1, q1, f1, r1, -⟩ := m_thr0 M Z e1
  have e94 : rd h1 94 = rd h 94 := f1.row (by decide)
  have l0 : rd h1 92 2 = rd h 92 2 := q1.2.1 2 (by decide)
  have eb : bT h = fun i => rd h1 93 i % 256 := by unfold bT; rw [f1.row (by decide)]
  rw [show (iI (-2)) = (-2 : Int32) from rfl] at KN
  refine ⟨M1.o0, m_takesT M1 q1.2.2 e94 hG (by omega) eb fun h2 f2 m2 e2 z2 e100 e99 => ?_⟩
  rw [l0] at e99 ⊢
  have M2 := M1.fr f2
  have F2 : Fr [92, 99, 100] [] [] h h2 := (f1.mono (by simp) (by simp) (by simp)).trans f2
  have w2 : ∀ j, j ∈ QW → j ≠ 2 → rd h2 92 j = rd h 92 j := fun j hj h2' => by rw [m2 j (nq j hj h2'), q1.2.1 j hj]
  have d94 : rd h2 94 = rd h 94 := by rw [f2.row (by decide), e94]
  by_cases c1 : byOK (rd h 94) (bT h) (rd h 92 2)
  case neg => rw [bP_f c1]; exact ⟨fun _ => KN h2 (fun q => c1 q.1) F2 w2 e2 z2, fun q => absurd rfl q⟩
  rw [bP_t c1]
  refine ⟨fun q => absurd q i10, fun _ => (m_isHour hx.1 hx.2).mpr ?_⟩
  by_cases c2 : 0 ≤ hr ∧ hr < 24
  case neg => rw [bP_f c2]; exact ⟨fun _ => KN h2 (fun q => c2 q.2.1) F2 w2 e2 z2, fun q => absurd rfl q⟩
  rw [bP_t c2]
  have pr : 0 ≤ rd h 94 0 * rd h 94 1 ∧ rd h 94 0 * rd h 94 1 ≤ 64 := ⟨Int.mul_nonneg bd.1.1 bd.2.1.1, Int.le_trans (Int.mul_le_mul bd.1.2 bd.2.1.2 bd.2.1.1 (by omega)) (by decide)⟩
  refine ⟨fun q => absurd q i10, fun _ => ⟨M2.o0, (m_isFew M2 (by rw [d94]; exact bd.2.2.1.1) (by rw [d94]; exact bd.2.2.1.2) (by rw [d94]; exact pr.1) (by rw [d94]; exact pr.2)).mpr ?_⟩⟩
  rw [d94]
  by_cases c3 : few (rd h 94)
  case neg => rw [bP_f (show ¬ (rd h 94 2 ≤ 3 ∧ rd h 94 0 * rd h 94 1 ≤ 25) from c3)]; exact ⟨fun q => absurd rfl q, fun _ => KN h2 (fun q => c3 q.2.2) F2 w2 e2 z2⟩
  rw [bP_t (show rd h 94 2 ≤ 3 ∧ rd h 94 0 * rd h 94 1 ≤ 25 from c3)]
  refine ⟨fun _ => ⟨M2.o0, m_code M2 d94 (e99 c1) bd.2.2.1.1 c3.1 ⟨M2.o0, ?_⟩⟩, fun q => absurd q i10⟩
  have hVG : VB (rd h 94) (tS (rd h 94)) (zC (rd h 94)) (cdB (rd h 94) (byC (rd h 94) (bT h))) := by
    have Vm : VT (rd h 94) (mrg (rd h 94) (tS (rd h 94)) (byC (rd h 94) (bT h))) (zC (rd h 94)) := (hV c1).cgB (fun j j0 j1 => mrg_in j0 j1)
    have B := (VB.of (t0 := tS (rd h 94)) gs c3 (EZ.c _) Vm (fun j hj => mrg_out hj)).1
    rw [cdB_cg bd.2.2.1.1 c3.1 (fun j j0 j1 => mrg_in j0 j1)] at B
    exact B
  have j41 : ∀ j, j ∈ QW → j ≠ 41 := fun j hj e => q41 (by rw [← e]; exact hj)
  refine m_findTown M2 z2 d94 hG c3 c2 hVG (fun h' ns F' r92 e108 Z' => ?_) (fun h' pl I p0 p1 pg F' r92 e40 y Z' => ?_)
  · exact K0 h' _ ⟨c1, c2, c3⟩ rfl ns ((F2.mono (by simp) (by simp) (by simp)).trans F') (fun j hj h2' => by rw [r92 j (j41 j hj), w2 j hj h2']) (by rw [r92 2 (by omega)]; exact e2) (by rw [e108, F2.row (by simp)]) Z'
  · exact K1 h' _ pl ⟨c1, c2, c3⟩ rfl I p0 p1 pg ((F2.mono (by simp) (by simp) (by simp)).trans F') (fun j hj h2' h40 => by rw [r92 j h40 (j41 j hj), w2 j hj h2']) (by rw [r92 2 (by omega) (by omega)]; exact e2) e40 y Z'
end MLE
