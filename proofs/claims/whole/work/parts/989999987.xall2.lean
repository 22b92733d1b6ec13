/-! all() joined -/
section XA2
variable {h h1 h2 h3 h' h0 g : AH} {i la fr qa ac qa' ac' : Nat} {K : AH → Prop} {postV : AH → Prop} {post : AH → Int32 → Prop} {a b c d f j k v w x y pl r hr how goal st u most : Int} {s t z X F B T T' : Int → Int} {S R0 : BS}
theorem Inv_allx (I : Inv h i la fr qa ac) (g : Gr [74, 77, 79, 81, 82, 84, 87, 92, 99, 100, 113, 114] [83, 86, 88] [(80, 0)] h h2) (eN : aN h2 = aN h) (eS : aS h2 = aS h) (e74 : ∀ j, j ≠ 11 → j ≠ 12 → j ≠ 13 → j ≠ 14 → rd h2 74 j = rd h 74 j) (eq : ∀ j, j ∈ QW → j ≠ 48 → j ≠ 49 → rd h2 92 j = rd h 92 j) (z : Z24 h2) (iA : IvA h2) : Inv h2 (i + 1) la fr qa ac := by
  have hl := I.hl
  have lt := fun (a : Nat) (ha : a ≤ 118) => I.lt ha
  have I0 := I
  obtain ⟨c1, c2, c3, c4, c5, c6, c7, c8, c9, c10, c11, c12, c13, c14, c15, c16, c17, c18⟩ := I
  have q11 := c14.2.2.2.2.2.2.2.2.2
  have rr : ∀ a, a ≤ 118 → a ∉ [74, 77, 79, 81, 82, 84, 87, 92, 99, 100, 113, 114] → rd h2 a = rd h a := fun a ha hb => g.row (lt a ha) hb
  have jj : ∀ a, a ≤ 118 → a ∉ [83, 86, 88] → aJ h2 a = aJ h a := fun a ha hb => g.jow (lt a ha) hb
  have e94 : rd h2 94 = rd h 94 := rr 94 (by omega) (by decide)
  have e97 : aJ h2 97 = aJ h 97 := jj 97 (by omega) (by decide)
  have la5 : la = 5 ∨ la = 32 := by omega
  have scn : Scn h2 31 la (rd h2 94) (aJ h2 97) := by
    rw [e94, e97]
    exact c8.gr g (by omega) (Or.inl rfl) (by decide) (by decide) (fun j hj => by simp; omega) (fun j hj => by simp; omega) (by decide) (by decide) (by decide) (by decide) (by decide)
  refine I0.step g hl ((g.dyn (lt 2 (by omega)) (by decide)).trans c6) scn (by rw [e94]; exact c9) z (c11.gr (by rw [rr 0 (by omega) (by decide)]) (eq _ (by decide) (by omega) (by omega)) (rr 1 (by omega) (by decide)) (rr 93 (by omega) (by decide))) (c12.gr (by rw [rr 0 (by omega) (by decide)]) (eq _ (by decide) (by omega) (by omega))) (c13.gr (by rw [rr 0 (by omega) (by decide)]) (by rw [rr 0 (by omega) (by decide)]) (by rw [rr 0 (by omega) (by decide)]) (eq _ (by decide) (by omega) (by omega)) (rr _ (by omega) (by decide)) (rr _ (by omega) (by decide)) (rr _ (by omega) (by decide)) (rr _ (by omega) (by decide))) (c14.gr g c1 (by decide) (by decide) (e74 9 (by omega) (by omega) (by omega) (by omega)) (eq _ (by decide) (by omega) (by omega)) (by simp; omega) (rr _ (by omega) (by decide))) iA (c16.gr g c1 (by decide) (by decide) (rr _ (by omega) (by decide)) (jj _ (by omega) (by decide)) (rr _ (by omega) (by decide)) ⟨fun a ha => by simp at ha; omega, fun a ha => by simp at ha; omega⟩ ⟨Or.inl rfl, Or.inl rfl⟩) (c17.gr (rr _ (by omega) (by decide)) (rr _ (by omega) (by decide)) (jj _ (by omega) (by decide))) (c18.same c14 g eN eS)
theorem x_all (I : Inv h i la fr qa ac) (hK : ∀ h2, RtI (i + 1) h2 → K h2) : wp_X11_all h 0 (fun h1 v1 => ob h1 92 11 ∧ wp_X12_all h1 92 (Ag K v1)) := by
  have hG := I.ga
  have lt := fun (a : Nat) (ha : a ≤ 118) => I.lt ha
  obtain ⟨S, M, hl, hp, H, L, T, hG', hZ⟩ := I.core
  have bdd := hG.bd
  obtain ⟨-, hL, -, -, hF, -⟩ := id hG
  obtain ⟨_, _, _, ru, v9⟩ := id hF
  unfold wp_X11_all
  refine ⟨S.o0, 31, S.p0_5, S.o31, la, hp, H.o0, c_isSmall H L bdd.1 bdd.2.1 bdd.2.2.1 (fun fw => ⟨fun _ => ⟨S.o0, 74, S.p0_14, S.o0, 31, S.p0_5, S.o31, la, hp, S.o74, ?_⟩, fun q => absurd q i10⟩) (fun nf => ⟨fun q => absurd rfl q, fun _ => ?_⟩)⟩
  · refine c_all (t0 := tS (rd h 94)) S H L hl hG.1 hL fw (EZ.c _) v9 ru (Fit_va hF) fun h3 T bA g eN eS e74 e13 e14 e79 => ?_
    have r1 : ∀ a, a ≤ 118 → 92 ≤ a → rd h3 a = rd h a := fun a ha hb => g.row (lt a ha) (by simp; omega)
    have d94 := r1 94 (by omega) (by omega)
    have Z3 : Z24 h3 := by
      have z := I.z
      unfold Z24 at z ⊢
      rw [r1 99 (by omega) (by omega), r1 100 (by omega) (by omega)]
      exact z
    have M3 := I.m.gr g
    refine ⟨M3.o0, mX_all M3 Z3 (by rw [d94]; exact hG) (fun h2 nc => ?_) (fun h2 T' c' bM F m2 e48 e49 e114 z2 => ?_)⟩
    · rw [d94] at nc; exact absurd fw nc
    rw [d94] at bM e48 e49 e114
    have eT := best_one hG.1 fw bA bM
    rw [d94, ← eT]
    rw [← eT] at e49 e114
    have V := bA.1.1
    refine Ag.same (hK _ (Inv_allx I (g.mono (by simp) (by simp) (by simp) (by simp [DynP]) |>.trans (F.gr.mono (by simp) (by simp) (by simp) (by simp [DynP]))) (by rw [F.1, eN]) (by rw [F.2.1, eS]) (fun j j1 j2 j3 j4 => by rw [F.row (by simp)]; exact e74 j j1 j2 j3 j4) (fun j hj h8 h9 => by rw [m2 j hj h8 h9, r1 92 (by omega) (by omega)]) z2 (Or.inr ⟨?_, ?_, ?_, fun r r0 r1' => ?_⟩)).rt)
    · rw [e48]
      have := fw.1
      omega
    · rw [F.row (by simp), e13, e48]
    · rw [F.row (by simp), e14, e49]
    · rw [e48] at r1'
      have a0 := e114 (3 * r) (by omega) (by omega)
      have a1 := e114 (3 * r + 1) (by omega) (by omega)
      have a2 := e114 (3 * r + 2) (by omega) (by omega)
      have sp := (V r r0 r1').1
      refine ⟨?_, ?_⟩
      · rw [F.row (by simp), e79 r r0 r1']
        unfold enc
        rw [a0, a1, a2]
      · unfold SpB
        rw [a0, a1, a2]
        exact ⟨sp.1, sp.2.1, sp.2.2.1⟩
  · refine ⟨M.o0, mX_all M hZ hG (fun h2 _ F2 m2 z2 => ?_) (fun h2 T' c' => absurd c' nf)⟩
    exact Ag.same (hK _ (I.quiet (F2.mono (by simp) (by simp) (by simp)) m2 z2 (Nat.le_succ i)).rt)
end XA2
