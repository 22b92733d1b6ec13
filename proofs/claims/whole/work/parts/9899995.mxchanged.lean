/-! changed() in the model -/
def chOk (s : Int → Int) (a b hr : Int) : Prop := (0 ≤ a ∧ a < s 2) ∧ (0 ≤ b ∧ b < s 2) ∧ a ≠ b ∧ (0 ≤ hr ∧ hr < 24) ∧ few s ∧ townT s (chT (tS s) a b) (zC s)
section MXC
variable {h h1 h2 h' h0 g0 g : AH} {postV : AH → Prop} {post : AH → Int32 → Prop} {a b c d f i j k v w x y pl r hr how gl goal most st u p o : Int} {s t t' t0 z T : Int → Int} {S : BS}
theorem chT_out (a0 : 0 ≤ a ∧ a < s 2) (b0 : 0 ≤ b ∧ b < s 2) (hj : j < 0 ∨ 3 * s 2 ≤ j) : chT t a b j = t j := chT_n (by omega) (by omega)
theorem mX_changed (M : MSh h) (Z : Z24 h) (hG : GA (rd h 94)) (ha : -2147483648 ≤ a ∧ a < 2147483648) (hb : -2147483648 ≤ b ∧ b < 2147483648) (hx : -2147483648 ≤ hr ∧ hr < 2147483648)
    (hV : chOk (rd h 94) a b hr → VT (rd h 94) (chT (tS (rd h 94)) a b) (zC (rd h 94)))
    (hR : (0 ≤ a ∧ a < rd h 94 2) → (0 ≤ b ∧ b < rd h 94 2) → a ≠ b → ∀ o, 0 ≤ o → o < rd h 94 2 → RBd (chT (tS (rd h 94)) a b) (zC (rd h 94)) o)
    (KN : ∀ h', ¬ chOk (rd h 94) a b hr → Fr [92, 99, 100] [] [] h h' → (∀ j, j ∈ QW → rd h' 92 j = rd h 92 j) → Z24 h' → post h' (iI (-2)))
    (K0 : ∀ h' goal, chOk (rd h 94) a b hr → goal = cdB (rd h 94) (chT (tS (rd h 94)) a b) → ¬ seenB (runL (rd h 94) (tS (rd h 94)) (zC (rd h 94)) hr goal) goal → Fr [92, 99, 100, 104, 105, 106, 107, 108] [] [] h h' → (∀ j, j ∈ QW → rd h' 92 j = rd h 92 j) → rd h' 108 = rd h 108 → Z24 h' → post h' (iI (-1)))
    (K1 : ∀ h' goal pl, chOk (rd h 94) a b hr → goal = cdB (rd h 94) (chT (tS (rd h 94)) a b) → BI (VB (rd h 94) (tS (rd h 94)) (zC (rd h 94))) 0 (5 * rd h 94 2) (runL (rd h 94) (tS (rd h 94)) (zC (rd h 94)) hr goal) → 0 ≤ pl → pl < (runL (rd h 94) (tS (rd h 94)) (zC (rd h 94)) hr goal).1 → (runL (rd h 94) (tS (rd h 94)) (zC (rd h 94)) hr goal).2.1 pl = goal → Fr [92, 99, 100, 104, 105, 106, 107, 108] [] [] h h' → (∀ j, j ∈ QW → j ≠ 40 → rd h' 92 j = rd h 92 j) → rd h' 92 40 = dpt (runL (rd h 94) (tS (rd h 94)) (zC (rd h 94)) hr goal).2.2.1 pl → (∀ k : Nat, (k : Int) < dpt (runL (rd h 94) (tS (rd h 94)) (zC (rd h 94)) hr goal).2.2.1 pl → rd h' 108 (dpt (runL (rd h 94) (tS (rd h 94)) (zC (rd h 94)) hr goal).2.2.1 pl - 1 - k) = dcd ((runL (rd h 94) (tS (rd h 94)) (zC (rd h 94)) hr goal).2.2.2 (anc (runL (rd h 94) (tS (rd h 94)) (zC (rd h 94)) hr goal).2.2.1 k pl))) → Z24 h' → post h' (iI (dpt (runL (rd h 94) (tS (rd h 94)) (zC (rd h 94)) hr goal).2.2.1 pl))) : wp_X12_changed h 92 (iI a) (iI b) (iI hr) post := by
  have bd := hG.bd
  have gs := hG.1
  have q41 : (41 : Int) ∉ QW := by decide
  have j41 : ∀ j, j ∈ QW → j ≠ 41 := fun j hj e => q41 (by rw [← e]; exact hj)
  unfold wp_X12_changed
  refine ⟨M.o0, fun h1 e1 => ?_⟩
  obtain ⟨M1, q1, f1, r1, -⟩ := m_thr0 M Z e1
  have e94 : rd h1 94 = rd h 94 := f1.row (by decide)
  have F1 : Fr [92, 99, 100] [] [] h h1 := f1.mono (by simp) (by simp) (by simp)
  rw [show (iI (-2)) = (-2 : Int32) from rfl] at KN
  have no : ¬ chOk (rd h 94) a b hr → post h1 (-2) := fun n => KN h1 n F1 q1.2.1 q1.2.2
  refine ⟨M1.o0, (m_isRaft M1 ha.1 ha.2 (by rw [e94]; exact bd.2.2.1.1) (by rw [e94]; exact bd.2.2.1.2)).mpr ?_⟩
  rw [e94]
  by_cases c1 : 0 ≤ a ∧ a < rd h 94 2
  case neg => rw [bP_f c1]; exact ⟨fun _ => no fun q => c1 q.1, fun q => absurd rfl q⟩
  rw [bP_t c1]
  refine ⟨fun q => absurd q i10, fun _ => ⟨M1.o0, (m_isRaft M1 hb.1 hb.2 (by rw [e94]; exact bd.2.2.1.1) (by rw [e94]; exact bd.2.2.1.2)).mpr ?_⟩⟩
  rw [e94]
  by_cases c2 : 0 ≤ b ∧ b < rd h 94 2
  case neg => rw [bP_f c2]; exact ⟨fun _ => no fun q => c2 q.2.1, fun q => absurd rfl q⟩
  rw [bP_t c2]
  refine ⟨fun q => absurd q i10, fun _ => ⟨fun q => no fun w => w.2.2.1 ((iI_eq (by omega) (by omega) (by omega) (by omega)).mp q), fun nq => (m_isHour hx.1 hx.2).mpr ?_⟩⟩
  have c3 : a ≠ b := fun e => nq (by rw [e])
  by_cases c4 : 0 ≤ hr ∧ hr < 24
  case neg => rw [bP_f c4]; exact ⟨fun _ => no fun q => c4 q.2.2.2.1, fun q => absurd rfl q⟩
  rw [bP_t c4]
  have pr : 0 ≤ rd h 94 0 * rd h 94 1 ∧ rd h 94 0 * rd h 94 1 ≤ 64 := ⟨Int.mul_nonneg bd.1.1 bd.2.1.1, Int.le_trans (Int.mul_le_mul bd.1.2 bd.2.1.2 bd.2.1.1 (by omega)) (by decide)⟩
  refine ⟨fun q => absurd q i10, fun _ => ⟨M1.o0, (m_isFew M1 (by rw [e94]; exact bd.2.2.1.1) (by rw [e94]; exact bd.2.2.1.2) (by rw [e94]; exact pr.1) (by rw [e94]; exact pr.2)).mpr ?_⟩⟩
  rw [e94]
  by_cases c5 : few (rd h 94)
  case neg => rw [bP_f (show ¬ (rd h 94 2 ≤ 3 ∧ rd h 94 0 * rd h 94 1 ≤ 25) from c5)]; exact ⟨fun q => absurd rfl q, fun _ => no fun q => c5 q.2.2.2.2.1⟩
  rw [bP_t (show rd h 94 2 ≤ 3 ∧ rd h 94 0 * rd h 94 1 ≤ 25 from c5)]
  refine ⟨fun _ => ⟨M1.o0, m_asIt M1 q1.2.2 fun h2 f2 e99 e100 => ?_⟩, fun q => absurd q i10⟩
  rw [e94] at e99 e100
  have M2 := M1.gr f2.gr
  refine m_swap M2 e99 (by omega) (by omega) fun h3 f3 r3 K50 => ?_
  have M3 := M2.gr f3.gr
  have d94 : rd h3 94 = rd h 94 := by rw [f3.row (by simp), f2.row (by simp), e94]
  have d100 : rd h3 100 = zC (rd h 94) := by rw [f3.row (by simp)]; exact e100
  have F3 : Fr [92, 99, 100] [] [] h h3 := F1.trans ((f2.mono (by simp) (by simp) (by simp)).trans (f3.mono (by simp) (by simp) (by simp)))
  have w3 : ∀ j, j ∈ QW → rd h3 92 j = rd h 92 j := fun j hj => by rw [f3.row (by simp), f2.row (by simp)]; exact q1.2.1 j hj
  have Z3 : Z24 h3 := ⟨fun j hj => by
    rw [r3, chT_out c1 c2 (by omega)]
    unfold tS
    rw [if_neg (by omega)], fun j hj => by
    rw [d100]
    unfold zC
    rw [if_neg (by omega)]⟩
  refine ⟨fun _ => ⟨M3.o0, (m_isTown M3 (by rw [d94]; exact gs.1.1) (by rw [d94]; exact bd.2.2.1.2) (by rw [d94]; exact bd.1.2) (by rw [d94]; exact bd.2.1.2) (by rw [d94, r3, d100]; exact hR c1 c2 c3)).mpr ?_⟩, fun u => absurd (by decide) u⟩
  rw [d94, r3, d100]
  by_cases c6 : townT (rd h 94) (chT (tS (rd h 94)) a b) (zC (rd h 94))
  case neg => rw [bP_f c6]; exact ⟨fun q => absurd rfl q, fun _ => KN h3 (fun q => c6 q.2.2.2.2.2) F3 w3 Z3⟩
  rw [bP_t c6]
  have ok : chOk (rd h 94) a b hr := ⟨c1, c2, c3, c4, c5, c6⟩
  have hVG := (VB.of (t0 := tS (rd h 94)) gs c5 (EZ.c _) (hV ok) (fun j hj => chT_out c1 c2 hj)).1
  refine ⟨fun _ => ⟨M3.o0, m_code M3 d94 r3 bd.2.2.1.1 c5.1 ⟨M3.o0, ?_⟩⟩, fun q => absurd q i10⟩
  refine m_findTown M3 Z3 d94 hG c5 c4 hVG (fun h' ns F' r92 e108 Z' => ?_) (fun h' pl I p0 p1 pg F' r92 e40 y Z' => ?_)
  · exact K0 h' _ ok rfl ns ((F3.mono (by simp) (by simp) (by simp)).trans F') (fun j hj => by rw [r92 j (j41 j hj), w3 j hj]) (by rw [e108, F3.row (by simp)]) Z'
  · exact K1 h' _ pl ok rfl I p0 p1 pg ((F3.mono (by simp) (by simp) (by simp)).trans F') (fun j hj h40 => by rw [r92 j h40 (j41 j hj), w3 j hj]) e40 y Z'
end MXC
