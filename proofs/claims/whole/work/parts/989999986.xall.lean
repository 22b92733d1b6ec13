/-! all() in both -/
section XAL
variable {h h1 h2 h3 h' h0 g : AH} {i la fr qa ac qa' ac' : Nat} {K : AH → Prop} {postV : AH → Prop} {post : AH → Int32 → Prop} {a b c d f j k v w x y pl r hr how goal st u most : Int} {s t z X F B T T' : Int → Int} {S R0 : BS}
def bestM (s T : Int → Int) : Prop := VAl s (tS s) (zC s) T ∧ ∀ T', VAl s (tS s) (zC s) T' → mvT s T' (zC s) ≤ mvT s T (zC s) ∧ (kM s T' < kM s T → mvT s T' (zC s) < mvT s T (zC s))
theorem best_one (gs : GS s) (fw : few s) (A : bestA s (tS s) (zC s) T) (B : bestM s T') : T = T' := by
  have e := EZ.c s
  have a := A.2 T' B.1
  have b := B.2 T A.1
  refine VAl_inj gs fw e A.1 B.1 ?_
  by_cases c1 : csT s T < csT s T'
  · have := b.2 (ord_k gs fw e A.1.1 B.1.1 c1)
    have := a.1
    omega
  · by_cases c2 : csT s T' < csT s T
    · have := a.2 c2
      have := b.1
      omega
    · omega
theorem mX_all (M : MSh h) (Z : Z24 h) (hG : GA (rd h 94))
    (KN : ∀ h', ¬ few (rd h 94) → Fr [92, 99, 100] [] [] h h' → (∀ j, j ∈ QW → rd h' 92 j = rd h 92 j) → Z24 h' → post h' (iI (-2)))
    (K1 : ∀ h' T, few (rd h 94) → bestM (rd h 94) T → Fr [92, 99, 100, 113, 114] [] [] h h' → (∀ j, j ∈ QW → j ≠ 48 → j ≠ 49 → rd h' 92 j = rd h 92 j) → rd h' 92 48 = rd h 94 2 → rd h' 92 49 = (lfT (rd h 94) T (zC (rd h 94))).toInt → (∀ j, 0 ≤ j → j < 3 * rd h 94 2 → rd h' 114 j = T j) → Z24 h' → post h' (iI (mvT (rd h 94) T (zC (rd h 94))))) : wp_X12_all h 92 post := by
  have bd := hG.bd
  have gs := hG.1
  obtain ⟨-, hL, -, -, hF, -⟩ := id hG
  unfold wp_X12_all
  refine ⟨M.o0, fun h1 e1 => ?_⟩
  obtain ⟨M1, q1, f1, r1, -⟩ := m_thr0 M Z e1
  have e94 : rd h1 94 = rd h 94 := f1.row (by decide)
  have F1 : Fr [92, 99, 100] [] [] h h1 := f1.mono (by simp) (by simp) (by simp)
  rw [show (iI (-2)) = (-2 : Int32) from rfl] at KN
  have pr : 0 ≤ rd h 94 0 * rd h 94 1 ∧ rd h 94 0 * rd h 94 1 ≤ 64 := ⟨Int.mul_nonneg bd.1.1 bd.2.1.1, Int.le_trans (Int.mul_le_mul bd.1.2 bd.2.1.2 bd.2.1.1 (by omega)) (by decide)⟩
  refine ⟨M1.o0, (m_isFew M1 (by rw [e94]; exact bd.2.2.1.1) (by rw [e94]; exact bd.2.2.1.2) (by rw [e94]; exact pr.1) (by rw [e94]; exact pr.2)).mpr ?_⟩
  rw [e94]
  by_cases c5 : few (rd h 94)
  case neg => rw [bP_f (show ¬ (rd h 94 2 ≤ 3 ∧ rd h 94 0 * rd h 94 1 ≤ 25) from c5)]; exact ⟨fun q => absurd rfl q, fun _ => KN h1 c5 F1 q1.2.1 q1.2.2⟩
  rw [bP_t (show rd h 94 2 ≤ 3 ∧ rd h 94 0 * rd h 94 1 ≤ 25 from c5)]
  refine ⟨fun _ => ⟨M1.o0, m_asIt M1 q1.2.2 fun h2 f2 e99 e100 => ?_⟩, fun q => absurd q i10⟩
  rw [e94] at e99 e100
  have M2 := M1.gr f2.gr
  have d94 : rd h2 94 = rd h 94 := by rw [f2.row (by simp)]; exact e94
  generalize hs : rd h 94 = s at *
  have ii : ∀ (k : Int), 0 ≤ k → aI h2 94 k.toNat = iI (s k) := fun k k0 => by rw [rd_I _ _ k0, d94]
  have i0 : aI h2 94 (0 : Int32).toNatClampNeg = iI (s 0) := ii 0 (by omega)
  have i1 : aI h2 94 (1 : Int32).toNatClampNeg = iI (s 1) := ii 1 (by omega)
  have i2 : aI h2 94 (2 : Int32).toNatClampNeg = iI (s 2) := ii 2 (by omega)
  have F2 : Fr [92, 99, 100] [] [] h h2 := F1.trans (f2.mono (by simp) (by simp) (by simp))
  refine ⟨M2.o0, 94, M2.p6, M2.o2, iI_in (a := 0) (by omega) (by rw [M2.l2]; omega) (by rw [M2.l2]; omega), M2.o0, 94, M2.p6, M2.o2, iI_in (a := 1) (by omega) (by rw [M2.l2]; omega) (by rw [M2.l2]; omega), fun w ew => ⟨M2.o0, 94, M2.p6, M2.o2, iI_in (a := 2) (by omega) (by rw [M2.l2]; omega) (by rw [M2.l2]; omega), fun nz => ⟨M2.o0, 113, M2.p46, M2.o21, iI_in (a := 0) (by omega) (by rw [M2.l21]; omega) (by rw [M2.l21]; omega), fun h3 w3 => ?_⟩, fun zz => ⟨M2.o0, fun h3 w3 => ?_⟩⟩⟩
  · rw [i0, i1, iI_mul] at ew
    rw [i2, show (0 : Int32) = iI 0 from rfl, iI_eq (by omega) (by omega) (by omega) (by omega)] at nz
    obtain ⟨f3, r3⟩ := wI (i := 0) (v := 0) (by omega) (by omega) (by omega) w3
    have M3 := M2.gr f3.gr
    rw [ew, show (-1 : Int32) = iI (-1) from rfl, show (0 : Int32) = iI 0 from rfl]
    have F23 : Fr [92, 99, 100, 113, 114] [] [] h h3 := (F2.mono (by simp) (by simp) (by simp)).trans (f3.mono (by simp) (by simp) (by simp))
    have c92 : ∀ j, j ∈ QW → rd h3 92 j = rd h 92 j := fun j hj => by rw [f3.row (by simp), f2.row (by simp)]; exact q1.2.1 j hj
    have A3 : MA h3 h3 s 0 (-1) := ⟨M3, (Fr.refl h3).mono (by simp) (by simp) (by simp), by rw [f3.row (by simp)]; exact d94, by rw [f3.row (by simp)]; exact e100, fun j _ => by rw [f3.row (by simp), e99], fun _ _ _ => rfl, by omega, fun o o0 o1 => by omega, fun _ => by rw [r3, updT_s]; omega, fun o o0 o1 => by omega, Or.inl ⟨rfl, fun T V u => by
      have b0 := dig_b gs c5 (EZ.c s) (LYS.vt V.1) (r := 0) (by omega)
      have b1 := dig_b gs c5 (EZ.c s) (LYS.vt V.1) (r := 1) (by omega)
      have b2 := dig_b gs c5 (EZ.c s) (LYS.vt V.1) (r := 2) (by omega)
      rw [pos_0, r3, updT_s] at u
      unfold kM at u
      omega, rfl, rfl, rfl⟩⟩
    refine ⟨_, m_allLoop gs hL c5 hG.vt (by omega) (fun h4 most A4 => ?_) (muM (rd h3 113) (2 * (s 0 * s 1)) 0).toNat h3 0 (-1) A3 (by omega)⟩
    obtain ⟨MM, FF, s94, z10, t99, r92, db, tr, td, sp, bb⟩ := A4
    rw [pos_n (by omega)] at bb
    have all : ∀ T, VAl s (tS s) (zC s) T → kM s T < 125000 := fun T V => by
      have b0 := dig_b gs c5 (EZ.c s) (LYS.vt V.1) (r := 0) (by omega)
      have b1 := dig_b gs c5 (EZ.c s) (LYS.vt V.1) (r := 1) (by omega)
      have b2 := dig_b gs c5 (EZ.c s) (LYS.vt V.1) (r := 2) (by omega)
      unfold kM
      omega
    rcases bb with ⟨a1, a2, _⟩ | ⟨T, a1, a2, a3, a4, a5, a6, a7⟩
    · obtain ⟨T, V⟩ := Fit_va (t0 := tS s) hF
      exact absurd (all T V) (a2 T V)
    rw [a3]
    refine K1 h4 T c5 ⟨a1, fun T' V' => a7 T' V' (all T' V')⟩ (F23.trans (FF.mono (by simp) (by simp) (by simp))) (fun j hj h8 h9 => by rw [r92 j h8 h9]; exact c92 j hj) a4 a5 (fun j j0 j1 => a6 j j0 (by omega)) ⟨fun j hj => ?_, fun j hj => ?_⟩
    · rw [t99 j (by omega)]
      unfold tS
      rw [if_neg (by omega)]
    · rw [z10]
      unfold zC
      rw [if_neg (by omega)]
  · rw [i2, show (0 : Int32) = iI 0 from rfl, iI_eq (by omega) (by omega) (by omega) (by omega)] at zz
    obtain ⟨f3, r3⟩ := wI (i := 48) (v := 0) (by omega) (by omega) (by omega) w3
    have M3 := M2.gr f3.gr
    refine ⟨M3.o0, fun h4 w4 => ?_⟩
    obtain ⟨f4, r4⟩ := wI (i := 49) (v := 0) (by omega) (by omega) (by omega) w4
    -- no RAFT, no WANT
    have s5 : s 5 = 0 := by
      have b5 := gs.1.1 5 (by omega) (by omega)
      by_cases c : s 5 = 0
      · exact c
      · have := (gs.1.2.2.2.2.2.2.2.2 0 (by omega) (by omega)).2.1
        omega
    have mv : ∀ T, mvT s T (zC s) = 0 := fun T => by
      unfold mvT
      rw [s5]
      rfl
    have lf : ∀ T, lfT s T (zC s) = iI 0 := fun T => by
      unfold lfT
      rw [s5]
      rfl
    obtain ⟨T, V⟩ := Fit_va (t0 := tS s) hF
    have k := K1 h4 T c5 ⟨V, fun T' V' => ⟨by rw [mv, mv]; omega, fun u => by
      unfold kM at u
      rw [vM_out (by omega), vM_out (by omega), vM_out (by omega), vM_out (by omega), vM_out (by omega), vM_out (by omega)] at u
      omega⟩⟩ ((F2.mono (by simp) (by simp) (by simp)).trans ((f3.mono (by simp) (by simp) (by simp)).trans (f4.mono (by simp) (by simp) (by simp)))) (fun j hj h8 h9 => by rw [r4, updT_n h9, r3, updT_n h8, f2.row (by simp)]; exact q1.2.1 j hj) (by rw [r4, updT_n (by omega), r3, updT_s]; omega) (by rw [r4, updT_s, lf]; rfl) (fun j j0 j1 => by omega) ⟨fun j hj => by
        rw [f4.row (by simp), f3.row (by simp), e99]
        unfold tS
        rw [if_neg (by omega)], fun j hj => by
        rw [f4.row (by simp), f3.row (by simp), e100]
        unfold zC
        rw [if_neg (by omega)]⟩
    rw [mv] at k
    exact k
end XAL
