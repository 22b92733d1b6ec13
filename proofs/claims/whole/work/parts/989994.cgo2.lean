/-! the class goes on by all ACTS -/
section CG2
variable {h h1 h2 h' h0 g0 g : AH} {qa0 qa ac la tw : Nat} {postV : AH → Prop} {post : AH → Int32 → Prop} {a b c d f i j k v w x y pl r hr how gl st u p o t' : Int} {s t t0 z T : Int → Int} {S : BS} {zr : Int64}
theorem c_goOnFrom (A : DS h0 h qa0 qa la s t0 z hr gl S) (I : BI (VB s t0 z) 0 (5 * s 2) S) (rm : aN h0 ≤ 400000 ∧ aS h0 ≤ 4000000) (hi : 0 ≤ i ∧ i < S.1) (gs : GS s) (fw : few s) (e : EZ z s) (v9 : ∀ k, 0 ≤ k → k < s 4 → s (135 + 4 * k + 2) ≤ 9) (ru : RUq s) (K : ∀ h' qa', DS h0 h' qa0 qa' la s t0 z hr gl (bHead (nxB s t0 z hr) 0 (5 * s 2).toNat i S) → postV h') : wp_X6_goOnFrom h 74 (iI i) (iI (s 2)) postV := by
  have f3 := fw.1
  have b2 := gs.1.1 2 (by omega) (by omega)
  have vi := I.2.1 i hi.1 hi.2
  have V := vi.2
  have W := LYS.vt V
  have ok : okS (csB s t0 (S.2.1 i)) ∧ csB s t0 (S.2.1 i) < 163840 := csT_ok gs fw e V
  have nn : ∀ o, 0 ≤ o → o < 3 → nIn (csB s t0 (S.2.1 i)) o = nmr s (tuB s t0 (S.2.1 i)) o := fun o o0 o1 => csW_nIn gs fw e W o0 o1
  have nxt : ∀ v a, VB s t0 z v → 0 ≤ a → a < 5 * s 2 → 0 ≤ nxB s t0 z hr v a → VB s t0 z (nxB s t0 z hr v a) := fun v a hv a0 a1 hn => nxB_cl gs fw e a0 a1 hv hn
  have o0' := ok.1.1
  unfold wp_X6_goOnFrom
  rw [c_stateAt A.C hi.1 hi.2]
  refine ⟨A.C.S.o74, ?_⟩
  have main : ∃ n, wl_X6_goOnFrom_9 postV n h 74 (iI i) (iI (s 2)) (iI (csB s t0 (S.2.1 i))) (iI 0) := by
    refine lf_for (W := fun k (b : AH × Nat) r => wl_X6_goOnFrom_9 postV k b.1 74 (iI i) (iI (s 2)) (iI (csB s t0 (S.2.1 i))) (iI r)) (lo := 0) (hi := s 2) (fun r b => DS h0 b.1 qa0 b.2 la s t0 z hr gl (bHead (nxB s t0 z hr) 0 (5 * r).toNat i S)) b2.1 (fun k b r r0 r1 J nx => ?_) (fun k b J => ?_) (h, qa) (by rw [show ((5 : Int) * 0).toNat = 0 from rfl]; exact A)
    · obtain ⟨g, q⟩ := b
      have J : DS h0 g qa0 q la s t0 z hr gl (bHead (nxB s t0 z hr) 0 (5 * r).toNat i S) := J
      have Sg := J.C.S
      have nb := nmr_c gs fw e W r0 (show r < 3 by omega)
      show wb_X6_goOnFrom_9 (wl_X6_goOnFrom_9 postV k) g 74 (iI i) (iI (s 2)) (iI (csB s t0 (S.2.1 i))) (iI r) postV
      have nr := nn r r0 (by omega)
      unfold wb_X6_goOnFrom_9
      refine ⟨fun u => by rw [iI_le (by omega) (by omega) (by omega) (by omega)] at u; omega, fun _ => ⟨fun u => by rw [show (3 : Int32) = iI 3 from rfl, iI_le (by omega) (by omega) (by omega) (by omega)] at u; omega, fun _ => (c_numberIn ok.1.1 (by omega) r0 (by omega)).mpr fun v3 e3 => ⟨Sg.o74, 80, Sg.p74_0, Sg.o80, ?_⟩⟩⟩
      refine c_roomFor Sg ok.1.1 (by omega) (fun o o0 o1 => by rw [nn o o0 o1]; exact (nmr_c gs fw e W o0 o1).2) r0 (show r < 3 by omega) (show (0 : Int) ≤ 2 by omega) (by omega) fun zr hz => ?_
      have Rz : RmS s (tuB s t0 (S.2.1 i)) z r zr := fun T WT ee => by
        have nt := nmr_c gs fw e WT r0 (show r < 3 by omega)
        rw [hz _ nt.1 (by omega), ← room_iff gs fw e v9 ru J.L3 J.TT WT r0 r1]
        exact ⟨fun u o o0 o1 ne => by have := u o o0 o1 ne; rw [nn o o0 (by omega), ← ee o o0 (by omega) ne] at this; exact this, fun u o o0 o1 ne => by rw [nn o o0 (by omega), ← ee o o0 (by omega) ne]; exact u o o0 o1 ne⟩
      have e3' : v3 = iI ((40 * r + nmr s (tuB s t0 (S.2.1 i)) r) * 5) := by
        rw [e3, nr, show (40 : Int32) = iI 40 from rfl, show (5 : Int32) = iI 5 from rfl, iI_mul, iI_add, iI_mul]
        congr 1; omega
      rw [e3']
      refine lf_for (W := fun k' (b : AH × Nat) how => wl_X6_goOnFrom_53 (wl_X6_goOnFrom_9 postV k) postV k' b.1 74 (iI i) (iI (s 2)) (iI (csB s t0 (S.2.1 i))) (iI r) (iI ((40 * r + nmr s (tuB s t0 (S.2.1 i)) r) * 5)) zr (iI how)) (lo := 0) (hi := 5) (fun how b => DS h0 b.1 qa0 b.2 la s t0 z hr gl (bHead (nxB s t0 z hr) 0 (5 * r + how).toNat i S)) (by omega) (fun k' b how w0 w1 J nx' => ?_) (fun k' b J => ?_) (g, q) (by rw [show 5 * r + 0 = 5 * r by omega]; exact J)
      · obtain ⟨g, q⟩ := b
        have J : DS h0 g qa0 q la s t0 z hr gl (bHead (nxB s t0 z hr) 0 (5 * r + how).toNat i S) := J
        have ex := bHead_ext (nx := nxB s t0 z hr) (lo := 0) (i := i) (S := S) (5 * r + how).toNat
        have I2 := bHead_I (nx := nxB s t0 z hr) I hi.1 hi.2 nxt (5 * r + how).toNat (by omega)
        have eq2 := (ex.2 i hi.2).1
        have nxs := bHead_s (nx := nxB s t0 z hr) (lo := 0) (i := i) (S := S) (cnt := (5 * r + how).toNat)
        generalize hS2 : bHead (nxB s t0 z hr) 0 (5 * r + how).toNat i S = S2 at *
        show wb_X6_goOnFrom_53 (wl_X6_goOnFrom_9 postV k) (wl_X6_goOnFrom_53 (wl_X6_goOnFrom_9 postV k) postV k') g 74 (iI i) (iI (s 2)) (iI (csB s t0 (S.2.1 i))) (iI r) (iI ((40 * r + nmr s (tuB s t0 (S.2.1 i)) r) * 5)) zr (iI how) postV
        rw [← eq2] at Rz nx' ⊢
        refine J.act I2 rm ⟨hi.1, by have := ex.1; omega⟩ gs fw e r0 r1 ⟨w0, w1⟩ Rz fun h' q' A' => ?_
        refine nx' (h', q') ?_
        show DS h0 h' qa0 q' la s t0 z hr gl (bHead (nxB s t0 z hr) 0 (5 * r + (how + 1)).toNat i S)
        rw [show (5 * r + (how + 1)).toNat = (5 * r + how).toNat + 1 by omega, nxs, show (0 : Int) + (((5 * r + how).toNat : Nat) : Int) = 5 * r + how by omega]
        exact A'
      · obtain ⟨g, q⟩ := b
        have J : DS h0 g qa0 q la s t0 z hr gl (bHead (nxB s t0 z hr) 0 (5 * r + 5).toNat i S) := J
        show wb_X6_goOnFrom_53 (wl_X6_goOnFrom_9 postV k) (wl_X6_goOnFrom_53 (wl_X6_goOnFrom_9 postV k) postV k') g 74 (iI i) (iI (s 2)) (iI (csB s t0 (S.2.1 i))) (iI r) (iI ((40 * r + nmr s (tuB s t0 (S.2.1 i)) r) * 5)) zr (iI 5) postV
        refine ⟨fun _ v1 e1 => ?_, fun u => absurd (by decide) u⟩
        rw [e1, show (1 : Int32) = iI 1 from rfl, iI_add]
        refine nx (g, q) ?_
        show DS h0 g qa0 q la s t0 z hr gl (bHead (nxB s t0 z hr) 0 (5 * (r + 1)).toNat i S)
        rw [show 5 * (r + 1) = 5 * r + 5 by omega]
        exact J
    · obtain ⟨g, q⟩ := b
      have J : DS h0 g qa0 q la s t0 z hr gl (bHead (nxB s t0 z hr) 0 (5 * s 2).toNat i S) := J
      show wb_X6_goOnFrom_9 (wl_X6_goOnFrom_9 postV k) g 74 (iI i) (iI (s 2)) (iI (csB s t0 (S.2.1 i))) (iI (s 2)) postV
      refine ⟨fun _ => K g q J, fun u => absurd ?_ u⟩
      rw [iI_le (by omega) (by omega) (by omega) (by omega)]
      omega
  exact main
end CG2
