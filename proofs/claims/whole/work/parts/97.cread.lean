/-! the class reads a LAGOON's text -/
section CRD
variable {h h1 h2 h' h0 g : AH} {fr tx ci tb : Nat} {postV : AH → Prop} {post : AH → Int32 → Prop} {a b c d r x y n m p f fa q e k i lo hi v w td : Int} {T s : Int → Int} {l : List Int} {N : Int → List Int}
theorem gr_hP1 {v : Nat} (hd : (tx, k.toNat) ∈ DynP) : Gr [] [] [(tx, k.toNat)] h (hP h tx k.toNat v) := by
  refine ⟨fun p hp => ?_, Nat.le_refl _, fun _ _ => ⟨rfl, rfl⟩, fun _ _ _ => rfl, fun _ _ _ => rfl, fun a j _ hj => ?_⟩
  · rw [List.mem_singleton] at hp; rw [hp]; exact hd
  · by_cases ca : a = tx
    · subst ca
      rw [aP_hP, if_neg]
      intro e
      exact hj (by rw [e]; exact List.mem_singleton.mpr rfl)
    · exact congrFun ((fr_hP (h := h) (a := tx) (k := k.toNat) (v := v)).2.2.2.2.2.2 a (by simpa using ca)) j
theorem c_readLines (O : ob h 2 2) (X : TXs h T) (B : TBl h 2 3) (H : LB h fr) (hp : aP h 2 12 = some fr) (fb : fr = 5 ∨ fr = 32) (hn : 0 ≤ n ∧ n ≤ 940) (K : ∀ g h' v, g = hP h 2 1 1 → COL T n 900 fr g h' v (lsS T n 900 941 plS (fun _ => []) 0 0 0) → post h' (iI v)) : wp_X2_readLines h 2 1 (iI n) post := by
  unfold wp_X2_readLines
  rw [show (900 : Int32) = iI 900 from rfl]
  refine ⟨O, c_begin (m := 900) O X B (by omega) hn (by omega) fun g g1 eg F1 rest R1 => ?_⟩
  have gg : Gr [] [] [(2, 1)] h g := by
    rw [eg]
    exact gr_hP1 (k := 1) (by decide)
  have Hg : LB g fr := H.gr gg (by omega)
  have H1 : LB g1 fr := LB.same F1.1 F1.2.2.1 F1.2.2.2.1 F1.aPe Hg
  have p1 : aP g1 2 12 = some fr := by rw [F1.aPe, eg, aP_hP, if_neg (by omega)]; exact hp
  refine ⟨R1.o, fr, p1, H1.o0, c_empty H1 fun g2 F2 L2 => ?_⟩
  have r2 : ∀ j, j < 5 → rd g2 j = rd g1 j := fun j hj => F2.row fun q => by have := mem_blk.mp q; omega
  have O2 : ob g2 2 2 := F2.gr.ob R1.o
  refine ⟨O2, fun g3 e3 => ?_⟩
  rw [show (0 : Int32) = iI 0 from rfl] at e3 ⊢
  obtain ⟨F3, r3⟩ := wI (i := 13) (by omega) (by omega) (by omega) e3
  have R2 : RD T n 900 g2 2 2 3 0 0 0 0 := by
    obtain ⟨b1, b2, b3, b4⟩ := R1.B
    obtain ⟨x1, x2, x3, x4⟩ := R1.X
    have e2 := r2 2 (by omega)
    exact ⟨O2, by rw [F2.aPe]; exact R1.pp, ⟨F2.gr.ob x1, by rw [F2.2.2.2.1]; exact x2, by rw [r2 1 (by omega)]; exact x3, x4⟩, ⟨by rw [F2.aPe]; exact b1, F2.gr.ob b2, by rw [F2.2.2.2.1]; exact b3, fun i i0 i1 => by rw [r2 3 (by omega)]; exact b4 i i0 i1⟩, by rw [e2]; exact R1.s2, by rw [e2]; exact R1.s3, by rw [e2]; exact R1.sf, by rw [e2]; exact R1.sa, by rw [e2]; exact R1.sp, by rw [e2]; exact R1.ss, R1.hp, R1.ha, R1.hn, R1.hm, R1.ht⟩
  have R3 := R2.b13 F3 r3
  have H3 : LB g3 fr := LB.same F3.1 F3.2.2.1 F3.2.2.2.1 F3.aPe (LB.same F2.1 F2.2.2.1 F2.2.2.2.1 F2.aPe H1)
  have C3 : CL g3 fr plS (fun _ => []) 0 := ⟨H3, L2.fr F3 (fun j hj => by simp <;> omega) (fun j hj => by simp), fun r r0 r1 => by rw [plS_0 (by omega)] at r1; omega, fun r r0 r1 => by rw [plS_0 (by omega)] at r1; omega, by rw [F3.aPe, F2.aPe]; exact p1, by rw [r3, updT_s], fb⟩
  have M0 : NmK plS (fun _ => []) := fun r r0 r1 => by rw [plS_0 (by omega)] at r1; omega
  have FF : Fr (2 :: blk fr) (blk fr) [] g g3 := (F1.b2).trans ((F2.mono (fun a ha => List.mem_cons_of_mem _ ha) (fun _ ha => ha) (by simp)).trans F3.b2)
  exact ⟨_, c_lines 941 g3 plS (fun _ => []) 0 0 0 0 0 R3 C3 BA.plain M0 (by omega) (by omega) (by omega) fun h' v co => K g h' v eg (COL.from FF co)⟩
end CRD
