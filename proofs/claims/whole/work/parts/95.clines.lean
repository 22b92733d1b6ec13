/-! the class reads all LINES -/
def COL (T : Int → Int) (n m : Int) (fr : Nat) (h h' : AH) (v : Int) (r : RT) : Prop := Fr (2 :: blk fr) (blk fr) [] h h' ∧ ((r.1 ≠ 0 ∧ ∃ p a, RD T n m h' 2 2 3 r.1 r.2.1 p a) ∨ (r.1 = 0 ∧ (∃ fa p a, RD T n m h' 2 2 3 0 fa p a) ∧ CL h' fr r.2.2.1 r.2.2.2.1 r.2.2.2.2.1 ∧ v = r.2.2.2.2.2))
section CLS
variable {h h1 h2 h' h0 g : AH} {fr : Nat} {postV : AH → Prop} {post : AH → Int32 → Prop} {a b c d r x y n m p f fa q e k i lo hi v w td : Int} {T s : Int → Int} {l : List Int} {N : Int → List Int}
theorem COL.from {r : RT} (t : Fr (2 :: blk fr) (blk fr) [] h h1) (c : COL T n m fr h1 h' v r) : COL T n m fr h h' v r := ⟨t.trans c.1, c.2⟩
/-- once a FAULT is found -/
theorem c_linesF {kk : Nat} (R : RD T n m h 2 2 3 f fa p a) (hf : f ≠ 0) (K : post h (iI c)) : wl_X2_readLines_23 post (kk + 1) h 2 (iI c) := by
  show wb_X2_readLines_23 (wl_X2_readLines_23 post kk) h 2 (iI c) post
  unfold wb_X2_readLines_23
  refine ⟨fun _ => K, fun _ => ⟨R.o, c_goesOn R (fun _ => ⟨fun _ => K, fun z => absurd rfl z⟩) (fun z => absurd z hf) (fun z => absurd z hf)⟩⟩
/-- a LINE by its word -/
theorem c_lineW {K23 : AH → Nat → Int32 → Prop} (R : RD T n m h 2 2 3 0 fa p a) (C : CL h fr s N td) (B : BA s td) (hw : rd h 2 9 = w) (hb : -1 ≤ w ∧ w < 18) (K : ∀ h', CO T n m fr h h' (liS T n m w s N td a p) → wb_X2_readLines_184 K23 h' 2 (iI c) post) : ((aI h 2 9) = 0 → ((ob h 2 2) ∧ wp_X2_readRow h 2 (fun hv3 => wb_X2_readLines_184 K23 hv3 2 (iI c) post))) ∧ ((aI h 2 9) = 1 → ((ob h 2 2) ∧ wp_X2_readTide h 2 (fun hv4 => wb_X2_readLines_184 K23 hv4 2 (iI c) post))) ∧ ((aI h 2 9) = 2 → ((ob h 2 2) ∧ wp_X2_readNewRaft h 2 (fun hv5 => wb_X2_readLines_184 K23 hv5 2 (iI c) post))) ∧ ((aI h 2 9) = 3 → ((ob h 2 2) ∧ wp_X2_readPole h 2 (fun hv6 => wb_X2_readLines_184 K23 hv6 2 (iI c) post))) ∧ ((aI h 2 9) = 4 → ((ob h 2 2) ∧ wp_X2_readRope h 2 (fun hv7 => wb_X2_readLines_184 K23 hv7 2 (iI c) post))) ∧ ((aI h 2 9) = 5 → ((ob h 2 2) ∧ wp_X2_readMoor h 2 (fun hv8 => wb_X2_readLines_184 K23 hv8 2 (iI c) post))) ∧ ((aI h 2 9) = 6 → ((ob h 2 2) ∧ wp_X2_readPairWant h 2 0 (fun hv9 => wb_X2_readLines_184 K23 hv9 2 (iI c) post))) ∧ ((aI h 2 9) = 7 → ((ob h 2 2) ∧ wp_X2_readPairWant h 2 1 (fun hv10 => wb_X2_readLines_184 K23 hv10 2 (iI c) post))) ∧ ((aI h 2 9) = 8 → ((ob h 2 2) ∧ wp_X2_readSun h 2 (fun hv11 => wb_X2_readLines_184 K23 hv11 2 (iI c) post))) ∧ ((aI h 2 9) = 9 → ((ob h 2 2) ∧ wp_X2_readLies h 2 (fun hv12 => wb_X2_readLines_184 K23 hv12 2 (iI c) post))) ∧ ((aI h 2 9) = 10 → ((ob h 2 2) ∧ wp_X2_readSquare h 2 (fun hv13 => wb_X2_readLines_184 K23 hv13 2 (iI c) post))) ∧ (((aI h 2 9).toInt < 0 ∨ 10 < (aI h 2 9).toInt) → ((ob h 2 2) ∧ wp_X7_fail 2 h 2 1 (fun hv14 => wb_X2_readLines_184 K23 hv14 2 (iI c) post))) := by
  have O := R.o
  have e9 : aI h 2 9 = iI w := by rw [show aI h 2 9 = iI (rd h 2 9) from rd_I h 2 (show (0 : Int) ≤ 9 by omega), hw]
  have ei : ∀ j : Int, 0 ≤ j → j < 18 → aI h 2 9 = iI j → w = j := fun j j0 j1 u => by
    rw [e9, iI_eq (by omega) (by omega) (by omega) (by omega)] at u
    exact u
  unfold liS at K
  refine ⟨fun u => ?_, fun u => ?_, fun u => ?_, fun u => ?_, fun u => ?_, fun u => ?_, fun u => ?_, fun u => ?_, fun u => ?_, fun u => ?_, fun u => ?_, fun u => ?_⟩
  · have z := ei 0 (by omega) (by omega) u
    rw [ite_t z] at K
    exact ⟨O, c_row R C B K⟩
  · have z := ei 1 (by omega) (by omega) u
    rw [ite_f (by omega), ite_t z] at K
    exact ⟨O, c_tide R C B K⟩
  · have z := ei 2 (by omega) (by omega) u
    rw [ite_f (by omega), ite_f (by omega), ite_t z] at K
    exact ⟨O, c_raft R C B K⟩
  · have z := ei 3 (by omega) (by omega) u
    rw [ite_f (by omega), ite_f (by omega), ite_f (by omega), ite_t z] at K
    exact ⟨O, c_pole R C B K⟩
  · have z := ei 4 (by omega) (by omega) u
    rw [ite_f (by omega), ite_f (by omega), ite_f (by omega), ite_f (by omega), ite_t z] at K
    exact ⟨O, c_rope R C B K⟩
  · have z := ei 5 (by omega) (by omega) u
    rw [ite_f (by omega), ite_f (by omega), ite_f (by omega), ite_f (by omega), ite_f (by omega), ite_t z] at K
    exact ⟨O, c_moor R C B K⟩
  · have z := ei 6 (by omega) (by omega) u
    rw [ite_f (by omega), ite_f (by omega), ite_f (by omega), ite_f (by omega), ite_f (by omega), ite_f (by omega), ite_t z] at K
    exact ⟨O, c_pair (wh := 0) (by omega) R C B K⟩
  · have z := ei 7 (by omega) (by omega) u
    rw [ite_f (by omega), ite_f (by omega), ite_f (by omega), ite_f (by omega), ite_f (by omega), ite_f (by omega), ite_f (by omega), ite_t z] at K
    exact ⟨O, c_pair (wh := 1) (by omega) R C B K⟩
  · have z := ei 8 (by omega) (by omega) u
    rw [ite_f (by omega), ite_f (by omega), ite_f (by omega), ite_f (by omega), ite_f (by omega), ite_f (by omega), ite_f (by omega), ite_f (by omega), ite_t z] at K
    exact ⟨O, c_sun R C B K⟩
  · have z := ei 9 (by omega) (by omega) u
    rw [ite_f (by omega), ite_f (by omega), ite_f (by omega), ite_f (by omega), ite_f (by omega), ite_f (by omega), ite_f (by omega), ite_f (by omega), ite_f (by omega), ite_t z] at K
    exact ⟨O, c_lies R C B K⟩
  · have z := ei 10 (by omega) (by omega) u
    rw [ite_f (by omega), ite_f (by omega), ite_f (by omega), ite_f (by omega), ite_f (by omega), ite_f (by omega), ite_f (by omega), ite_f (by omega), ite_f (by omega), ite_f (by omega), ite_t z] at K
    exact ⟨O, c_square R C B K⟩
  · rw [e9, iI_toInt (by omega) (by omega)] at u
    rw [ite_f (by omega), ite_f (by omega), ite_f (by omega), ite_f (by omega), ite_f (by omega), ite_f (by omega), ite_f (by omega), ite_f (by omega), ite_f (by omega), ite_f (by omega), ite_f (by omega)] at K
    exact ⟨O, c_fail0 (k := 1) R (by omega) fun g t Rg => K g (CO.bd t.b2 (by omega) Rg)⟩
theorem c_lines : ∀ (dd : Nat) (h : AH) (s : Int → Int) (N : Int → List Int) (td fa p a c : Int), RD T n m h 2 2 3 0 fa p a → CL h fr s N td → BA s td → NmK s N → n - p < dd → 0 ≤ c → 2 * c ≤ p → (∀ h' v, COL T n m fr h h' v (lsS T n m dd s N td p c) → post h' (iI v)) → wl_X2_readLines_23 post (dd + 1) h 2 (iI c) := by
  intro dd
  induction dd with
  | zero => intro h s N td fa p a c R C B M hd; have := R.hp; omega
  | succ dd ih =>
    intro h s N td fa p a c R C B M hd c0 cp K
    have hp := R.hp
    have hn := R.hn
    have hm := R.hm
    show wb_X2_readLines_23 (wl_X2_readLines_23 post (dd + 1)) h 2 (iI c) post
    unfold wb_X2_readLines_23
    refine ⟨fun u => by rw [show (900 : Int32) = iI 900 from rfl, iI_le (by omega) (by omega) (by omega) (by omega)] at u; omega, fun _ => ⟨R.o, c_goesOn R (fun z => absurd rfl z) (fun _ k4 g f' fa' p' a' t Rg z1 z2 => ⟨fun _ => ?_, fun z => absurd rfl z⟩) (fun _ k4 g t Rg Ad => ⟨fun z => absurd z (by decide), fun _ => ⟨Rg.o, ?_⟩⟩)⟩⟩
    · refine K g c ?_
      show COL T n m fr h g c (iteP _ _ _)
      rw [ite_t k4]
      by_cases nm : n ≤ m
      · have f0 := z1 nm
        subst f0
        rw [ite_t nm]
        exact ⟨t.b2, Or.inr ⟨rfl, ⟨_, _, _, Rg⟩, C.tf t, rfl⟩⟩
      · obtain ⟨f1, fa1⟩ := z2 (by omega)
        subst f1 fa1
        rw [ite_f nm]
        exact ⟨t.b2, Or.inl ⟨by show (1 : Int) ≠ 0; omega, _, _, Rg⟩⟩
    · obtain ⟨t0, a4, a5, a6, a7, a8, a9⟩ := Ad
      have w9 : rd g 2 9 = wdI T n m p := by
        unfold wdI
        by_cases k1 : tkK T n m p = 1
        · rw [ite_t k1]; exact (a7 k1).2
        · rw [ite_f k1]; exact a9 k1
      have wb : -1 ≤ wdI T n m p ∧ wdI T n m p < 18 := by
        unfold wdI
        have := kwI_bd (l := tkW T n m p)
        by_cases k1 : tkK T n m p = 1
        · rw [ite_t k1]; exact this
        · rw [ite_f k1]; omega
      have bk := tk_bd (T := T) hp hm.1
      refine c_lineW Rg (C.tf t) B w9 wb fun g2 co => ?_
      have L := line_ok (n := n) (T := T) (m := m) (w := wdI T n m p) (a := tkA T n m p) (p := tkE T n m p) B M (by omega) hm.1
      have LN := ln_ok (n := n) (T := T) (m := m) (w := wdI T n m p) (a := tkA T n m p) (p := tkE T n m p) B M (by omega) hm.1
      have hlt : (liS T n m (wdI T n m p) s N td (tkA T n m p) (tkE T n m p)).1 = 0 → p < tkE T n m p := fun z => by
        refine tkE_gt hp (Or.inl (Classical.byContradiction fun k1 => ?_))
        have : wdI T n m p = -1 := by unfold wdI; rw [ite_f k1]
        rw [this] at z
        unfold liS at z
        rw [ite_f (by omega), ite_f (by omega), ite_f (by omega), ite_f (by omega), ite_f (by omega), ite_f (by omega), ite_f (by omega), ite_f (by omega), ite_f (by omega), ite_f (by omega), ite_f (by omega)] at z
        exact absurd z (by show (1 : Int) ≠ 0; omega)
      obtain ⟨F2, cc⟩ := co
      have Ks : ∀ h' v, COL T n m fr h h' v (iteP ((lnS T n m (wdI T n m p) s N td (tkA T n m p) (tkE T n m p)).1 = 0) (lsS T n m dd (lnS T n m (wdI T n m p) s N td (tkA T n m p) (tkE T n m p)).2.2.1 (lnS T n m (wdI T n m p) s N td (tkA T n m p) (tkE T n m p)).2.2.2.1 (lnS T n m (wdI T n m p) s N td (tkA T n m p) (tkE T n m p)).2.2.2.2.1 (lnS T n m (wdI T n m p) s N td (tkA T n m p) (tkE T n m p)).2.2.2.2.2 (c + 1)) (lnS T n m (wdI T n m p) s N td (tkA T n m p) (tkE T n m p))) → post h' (iI v) := fun h' v z => K h' v (by
        show COL T n m fr h h' v (iteP _ _ _)
        rw [ite_f k4]
        exact z)
      unfold wb_X2_readLines_184
      have nx : ∀ iv2 : Int32, iv2 = iI c + 1 → iv2 = iI (c + 1) := fun iv2 e => by rw [e, show (1 : Int32) = iI 1 from rfl, iI_add]
      unfold lnS at Ks LN
      generalize hr : liS T n m (wdI T n m p) s N td (tkA T n m p) (tkE T n m p) = r at Ks LN L cc hlt
      rcases cc with ⟨r1, pp, aa, R2⟩ | ⟨r1, fa2, aa, R2, C2⟩
      · rw [ite_f r1, ite_f r1] at Ks
        refine ⟨R2.o, c_readStop R2 fun g3 f3 fa3 p3 a3 t3 R3 SR iv2 e2 => ?_⟩
        rw [nx iv2 e2]
        rcases SR with ⟨u1, u2, u3⟩ | u | u
        · subst u2 u3
          exact c_linesF R3 r1 (Ks g3 (c + 1) ⟨t.b2.trans (F2.trans t3.b2), Or.inl ⟨r1, _, _, R3⟩⟩)
        · exact absurd u.1 r1
        · exact absurd u.1 r1
      · refine ⟨R2.o, c_readStop R2 fun g3 f3 fa3 p3 a3 t3 R3 SR iv2 e2 => ?_⟩
        rw [nx iv2 e2]
        rcases SR with u | ⟨u1, u2, u3, u4⟩ | ⟨u1, u2, u3, u4, u5⟩
        · exact absurd rfl u.1
        · rw [ite_t r1, ite_f u2, ite_f (show ¬ (bdR 1 (tkA T n m r.2.2.2.2.2)).1 = 0 by show ¬ (1 : Int) = 0; omega)] at Ks
          subst u3 u4
          exact c_linesF R3 (by omega) (Ks g3 (c + 1) ⟨t.b2.trans (F2.trans t3.b2), Or.inl ⟨by show (1 : Int) ≠ 0; omega, _, _, R3⟩⟩)
        · rw [ite_t r1, ite_t u2] at LN
          obtain ⟨N1, N2, N3, N4⟩ := LN rfl
          rw [ite_t r1, ite_t u2, ite_t rfl] at Ks
          subst u3 u5
          have h3 := hlt r1
          have g3' : tkE T n m p + 1 ≤ tkE T n m r.2.2.2.2.2 := N3
          exact ih g3 _ _ _ _ _ _ (c + 1) R3 (C2.tf t3) N1 N2 (by show n - tkE T n m r.2.2.2.2.2 < dd; omega) (by omega) (by show 2 * (c + 1) ≤ tkE T n m r.2.2.2.2.2; omega) fun h' v z => Ks h' v (COL.from (t.b2.trans (F2.trans t3.b2)) z)
end CLS
