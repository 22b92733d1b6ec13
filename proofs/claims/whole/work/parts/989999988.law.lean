/-! raft and act in both, and the law's loop -/
section LAW
variable {h h1 h2 : AH} {i la fr qa ac L : Nat} {K : AH → Prop} {a r w : Int} {xs : Nat → Int32}
theorem Inv.up (I : Inv h i la fr qa ac) : Inv h (i + 1) la fr qa ac := by
  obtain ⟨c1, c2, c3, c4, c5, c6, c7, c8, c9, c10, c11, c12, c13, c14, c15, c16, c17, r1, r2⟩ := I
  exact ⟨c1, c2, c3, c4, c5, c6, c7, c8, c9, c10, c11, c12, c13, c14, c15, c16, c17, by omega, by omega⟩
theorem lg_same (a : Int64) : lg_cmp a a = 0 := by
  unfold lg_cmp
  simp
def AgT (K : AH → Prop) (v1 : Int32) : AH → Int32 → Prop := fun h2 v2 => (ob h2 92 11) ∧ wp_X12_thrown h2 92 (fun h3 v3 => (v3 = v1 → ((¬ v1 = 0 → K h3) ∧ (v1 = 0 → ((ob h3 118 14) ∧ ((vp_in 0 (aL h3 118)) ∧ (((lg_cmp (aJ h3 118 (0 : Int32).toNatClampNeg) v2.toInt64) = 0 → K h3) ∧ (¬ (lg_cmp (aJ h3 118 (0 : Int32).toNatClampNeg) v2.toInt64) = 0 → ((0 : Int32) = 1)))))))) ∧ (¬ v3 = v1 → ((0 : Int32) = 1)))
theorem vp0 {n : Nat} (e : n = 1) : vp_in 0 n := by
  rw [e]
  exact iI_in (a := 0) (by omega) (by omega) (by omega)
theorem AgT_0 {v : Int32} (I : Inv h i la fr qa ac) (t : aI h 92 0 = 0) (e : aJ h 118 0 = v.toInt64) (k : K h) : AgT K 0 h v :=
  ⟨I.2.1.o0, I.2.1.o0, fun _ => ⟨fun q => absurd rfl q, fun _ => ⟨I.2.2.1, vp0 I.2.2.2.1, fun _ => k, fun q => absurd (by
    show lg_cmp (aJ h 118 0) v.toInt64 = 0
    rw [e]
    exact lg_same _) q⟩⟩, fun q => absurd t q⟩
theorem AgT_1 {v : Int32} (I : Inv h i la fr qa ac) (t : aI h 92 0 = 1) (k : K h) : AgT K 1 h v :=
  ⟨I.2.1.o0, I.2.1.o0, fun _ => ⟨fun _ => k, fun q => absurd q (by decide)⟩, fun q => absurd t q⟩
theorem x_raft (I : Inv h i la fr qa ac) (hi : i ≤ 512) (p0 : -2147483648 ≤ r) (p0' : r < 2147483648) (p1 : -2147483648 ≤ w) (p1' : w < 2147483648) (hK : ∀ h2, RtI (i + 1) h2 → K h2) : wp_L_raft h 0 (iI r) (iI w) 118 (fun h1 v1 => ob h1 92 11 ∧ wp_X12_raft h1 92 (iI r) (iI w) (AgT K v1)) := by
  unfold wp_L_raft
  refine ⟨I.1.o0, cX_raft I hi p0 p0' p1 p1' (fun ok => ⟨I.2.2.1, vp0 I.2.2.2.1, fun hv e => ?_⟩) (fun nk n hn => ?_)⟩
  · obtain ⟨I1, e94, j1⟩ := I.out e
    refine ⟨I1.2.1.o0, mX_raft I1 p0 p0' p1 p1' (fun h' ok' I2 j2 t => ?_) (fun h' nk _ _ => ?_)⟩
    · refine AgT_0 I2 t ?_ (hK _ ⟨_, _, _, _, I2.up⟩)
      rw [j2, j1, e94]
    · rw [e94] at nk
      exact absurd ok nk
  · obtain ⟨I1, e94⟩ := I.ex hn
    refine ⟨I1.2.1.o0, mX_raft I1 p0 p0' p1 p1' (fun h' ok' I2 j2 t => ?_) (fun h' nk I2 t => ?_)⟩
    · rw [e94] at ok'
      exact absurd ok' nk
    · exact AgT_1 I2 t (hK _ ⟨_, _, _, _, I2⟩)
theorem x_act (I : Inv h i la fr qa ac) (hi : i ≤ 512) (p0 : -2147483648 ≤ a) (p0' : a < 2147483648) (p1 : -2147483648 ≤ w) (p1' : w < 2147483648) (hK : ∀ h2, RtI (i + 1) h2 → K h2) : wp_L_act h 0 (iI a) (iI w) 118 (fun h1 v1 => ob h1 92 11 ∧ wp_X12_act_ h1 92 (iI a) (iI w) (AgT K v1)) := by
  unfold wp_L_act
  refine ⟨I.1.o0, cX_act I hi p0 p0' p1 p1' (fun ok => ⟨I.2.2.1, vp0 I.2.2.2.1, fun hv e => ?_⟩) (fun nk n hn => ?_)⟩
  · obtain ⟨I1, e94, j1⟩ := I.out e
    refine ⟨I1.2.1.o0, mX_act I1 p0 p0' p1 p1' (fun h' ok' I2 j2 t => ?_) (fun h' nk _ _ => ?_)⟩
    · refine AgT_0 I2 t ?_ (hK _ ⟨_, _, _, _, I2.up⟩)
      rw [j2, j1, e94]
    · rw [e94] at nk
      exact absurd ok nk
  · obtain ⟨I1, e94⟩ := I.ex hn
    refine ⟨I1.2.1.o0, mX_act I1 p0 p0' p1 p1' (fun h' ok' I2 j2 t => ?_) (fun h' nk I2 t => ?_)⟩
    · rw [e94] at ok'
      exact absurd ok' nk
    · exact AgT_1 I2 t (hK _ ⟨_, _, _, _, I2⟩)
theorem lo32 (X : Int32) : -2147483648 ≤ X.toInt := X.le_toInt
theorem up32 (X : Int32) : X.toInt < 2147483648 := X.toInt_lt
theorem g_feed (R : RtI i h) (hK : ∀ h2, RtI (i + 1) h2 → K h2) (X1 X2 X3 X4 X5 : Int32) : ob h 0 10 ∧ wp_X11_feed h 0 X1 X2 X3 X4 X5 (fun h1 v1 => ob h1 92 11 ∧ wp_X12_feed h1 92 X1 X2 X3 X4 X5 (Ag K v1)) := by
  obtain ⟨la, fr, qa, ac, I⟩ := R
  have e := x_feed (A := X1) (B := X2) (C := X3) (D := X4) (E := X5) I hK
  exact ⟨I.1.o0, e⟩
theorem g_end (R : RtI i h) (hK : ∀ h2, RtI (i + 1) h2 → K h2) (X1 : Int32) : ob h 0 10 ∧ wp_X11_end h 0 X1 (fun h1 v1 => ob h1 92 11 ∧ wp_X12_end h1 92 X1 (Ag K v1)) := by
  obtain ⟨la, fr, qa, ac, I⟩ := R
  have e := x_end I (lo32 X1) (up32 X1) hK
  simp only [iI_of] at e
  exact ⟨I.1.o0, e⟩
theorem g_lagoon (R : RtI i h) (hK : ∀ h2, RtI (i + 1) h2 → K h2) : ob h 0 10 ∧ wp_X11_lagoon h 0  (fun h1 v1 => ob h1 92 11 ∧ wp_X12_lagoon h1 92  (Ag K v1)) := by
  obtain ⟨la, fr, qa, ac, I⟩ := R
  have e := x_lagoon I hK
  exact ⟨I.1.o0, e⟩
theorem g_fault (R : RtI i h) (hK : ∀ h2, RtI (i + 1) h2 → K h2) : ob h 0 10 ∧ wp_X11_fault h 0  (fun h1 v1 => ob h1 92 11 ∧ wp_X12_fault h1 92  (Ag K v1)) := by
  obtain ⟨la, fr, qa, ac, I⟩ := R
  have e := x_fault I hK
  exact ⟨I.1.o0, e⟩
theorem g_water (R : RtI i h) (hK : ∀ h2, RtI (i + 1) h2 → K h2) (X1 X2 X3 : Int32) : ob h 0 10 ∧ wp_X11_water h 0 X1 X2 X3 (fun h1 v1 => ob h1 92 11 ∧ wp_X12_water h1 92 X1 X2 X3 (Ag K v1)) := by
  obtain ⟨la, fr, qa, ac, I⟩ := R
  have e := x_water I (lo32 X1) (up32 X1) (lo32 X2) (up32 X2) (lo32 X3) (up32 X3) hK
  simp only [iI_of] at e
  exact ⟨I.1.o0, e⟩
theorem g_raft (R : RtI i h) (hi : i ≤ 512) (hK : ∀ h2, RtI (i + 1) h2 → K h2) (X1 X2 : Int32) : wp_L_raft h 0 X1 X2 118 (fun h1 v1 => ob h1 92 11 ∧ wp_X12_raft h1 92 X1 X2 (AgT K v1)) := by
  obtain ⟨la, fr, qa, ac, I⟩ := R
  have e := x_raft I hi (lo32 X1) (up32 X1) (lo32 X2) (up32 X2) hK
  simp only [iI_of] at e
  exact e
theorem g_at (R : RtI i h) (hK : ∀ h2, RtI (i + 1) h2 → K h2) (X1 X2 : Int32) : ob h 0 10 ∧ wp_X11_at h 0 X1 X2 (fun h1 v1 => ob h1 92 11 ∧ wp_X12_at h1 92 X1 X2 (Ag K v1)) := by
  obtain ⟨la, fr, qa, ac, I⟩ := R
  have e := x_at I (lo32 X1) (up32 X1) (lo32 X2) (up32 X2) hK
  simp only [iI_of] at e
  exact ⟨I.1.o0, e⟩
theorem g_lay (R : RtI i h) (hK : ∀ h2, RtI (i + 1) h2 → K h2) : ob h 0 10 ∧ wp_X11_lay h 0  (fun h1 v1 => ob h1 92 11 ∧ wp_X12_lay h1 92  (Ag K v1)) := by
  obtain ⟨la, fr, qa, ac, I⟩ := R
  have e := x_lay I hK
  exact ⟨I.1.o0, e⟩
theorem g_aground (R : RtI i h) (hK : ∀ h2, RtI (i + 1) h2 → K h2) (X1 : Int32) : ob h 0 10 ∧ wp_X11_aground h 0 X1 (fun h1 v1 => ob h1 92 11 ∧ wp_X12_aground h1 92 X1 (Ag K v1)) := by
  obtain ⟨la, fr, qa, ac, I⟩ := R
  have e := x_aground I (lo32 X1) (up32 X1) hK
  simp only [iI_of] at e
  exact ⟨I.1.o0, e⟩
theorem g_breaks (R : RtI i h) (hK : ∀ h2, RtI (i + 1) h2 → K h2) (X1 : Int32) : ob h 0 10 ∧ wp_X11_breaks h 0 X1 (fun h1 v1 => ob h1 92 11 ∧ wp_X12_breaks h1 92 X1 (Ag K v1)) := by
  obtain ⟨la, fr, qa, ac, I⟩ := R
  have e := x_breaks I (lo32 X1) (up32 X1) hK
  simp only [iI_of] at e
  exact ⟨I.1.o0, e⟩
theorem g_floats (R : RtI i h) (hK : ∀ h2, RtI (i + 1) h2 → K h2) (X1 : Int32) : ob h 0 10 ∧ wp_X11_floats h 0 X1 (fun h1 v1 => ob h1 92 11 ∧ wp_X12_floats h1 92 X1 (Ag K v1)) := by
  obtain ⟨la, fr, qa, ac, I⟩ := R
  have e := x_floats I (lo32 X1) (up32 X1) hK
  simp only [iI_of] at e
  exact ⟨I.1.o0, e⟩
theorem g_gap (R : RtI i h) (hK : ∀ h2, RtI (i + 1) h2 → K h2) (X1 X2 : Int32) : ob h 0 10 ∧ wp_X11_gap h 0 X1 X2 (fun h1 v1 => ob h1 92 11 ∧ wp_X12_gap h1 92 X1 X2 (Ag K v1)) := by
  obtain ⟨la, fr, qa, ac, I⟩ := R
  have e := x_gap I (lo32 X1) (up32 X1) (lo32 X2) (up32 X2) hK
  simp only [iI_of] at e
  exact ⟨I.1.o0, e⟩
theorem g_move (R : RtI i h) (hK : ∀ h2, RtI (i + 1) h2 → K h2) (X1 X2 X3 : Int32) : ob h 0 10 ∧ wp_X11_move h 0 X1 X2 X3 (fun h1 v1 => ob h1 92 11 ∧ wp_X12_move h1 92 X1 X2 X3 (Ag K v1)) := by
  obtain ⟨la, fr, qa, ac, I⟩ := R
  have e := x_move I (lo32 X1) (up32 X1) (lo32 X2) (up32 X2) (lo32 X3) (up32 X3) hK
  simp only [iI_of] at e
  exact ⟨I.1.o0, e⟩
theorem g_wants (R : RtI i h) (hK : ∀ h2, RtI (i + 1) h2 → K h2) (X1 : Int32) : ob h 0 10 ∧ wp_X11_wants h 0 X1 (fun h1 v1 => ob h1 92 11 ∧ wp_X12_wants h1 92 X1 (Ag K v1)) := by
  obtain ⟨la, fr, qa, ac, I⟩ := R
  have e := x_wants I (lo32 X1) (up32 X1) hK
  simp only [iI_of] at e
  exact ⟨I.1.o0, e⟩
theorem g_plan (R : RtI i h) (hK : ∀ h2, RtI (i + 1) h2 → K h2) : ob h 0 10 ∧ wp_X11_plan h 0  (fun h1 v1 => ob h1 92 11 ∧ wp_X12_plan h1 92  (Ag K v1)) := by
  obtain ⟨la, fr, qa, ac, I⟩ := R
  have e := x_plan I hK
  exact ⟨I.1.o0, e⟩
theorem g_act (R : RtI i h) (hi : i ≤ 512) (hK : ∀ h2, RtI (i + 1) h2 → K h2) (X1 X2 : Int32) : wp_L_act h 0 X1 X2 118 (fun h1 v1 => ob h1 92 11 ∧ wp_X12_act_ h1 92 X1 X2 (AgT K v1)) := by
  obtain ⟨la, fr, qa, ac, I⟩ := R
  have e := x_act I hi (lo32 X1) (up32 X1) (lo32 X2) (up32 X2) hK
  simp only [iI_of] at e
  exact e
theorem g_judge (R : RtI i h) (hK : ∀ h2, RtI (i + 1) h2 → K h2) (X1 : Int32) : ob h 0 10 ∧ wp_X11_judge h 0 X1 (fun h1 v1 => ob h1 92 11 ∧ wp_X12_judge h1 92 X1 (Ag K v1)) := by
  obtain ⟨la, fr, qa, ac, I⟩ := R
  have e := x_judge I (lo32 X1) (up32 X1) hK
  simp only [iI_of] at e
  exact ⟨I.1.o0, e⟩
theorem g_judged (R : RtI i h) (hK : ∀ h2, RtI (i + 1) h2 → K h2) (X1 : Int32) : ob h 0 10 ∧ wp_X11_judged h 0 X1 (fun h1 v1 => ob h1 92 11 ∧ wp_X12_judged h1 92 X1 (Ag K v1)) := by
  obtain ⟨la, fr, qa, ac, I⟩ := R
  have e := x_judged I (lo32 X1) (up32 X1) hK
  simp only [iI_of] at e
  exact ⟨I.1.o0, e⟩
theorem g_judgedAt (R : RtI i h) (hK : ∀ h2, RtI (i + 1) h2 → K h2) (X1 X2 : Int32) : ob h 0 10 ∧ wp_X11_judgedAt h 0 X1 X2 (fun h1 v1 => ob h1 92 11 ∧ wp_X12_judgedAt h1 92 X1 X2 (Ag K v1)) := by
  obtain ⟨la, fr, qa, ac, I⟩ := R
  have e := x_judgedAt I (lo32 X1) (up32 X1) (lo32 X2) (up32 X2) hK
  simp only [iI_of] at e
  exact ⟨I.1.o0, e⟩
theorem g_tooMany (R : RtI i h) (hK : ∀ h2, RtI (i + 1) h2 → K h2) (X1 : Int32) : ob h 0 10 ∧ wp_X11_tooMany h 0 X1 (fun h1 v1 => ob h1 92 11 ∧ wp_X12_tooMany h1 92 X1 (Ag K v1)) := by
  obtain ⟨la, fr, qa, ac, I⟩ := R
  have e := x_tooMany I (lo32 X1) (up32 X1) hK
  simp only [iI_of] at e
  exact ⟨I.1.o0, e⟩
theorem g_instead (R : RtI i h) (hK : ∀ h2, RtI (i + 1) h2 → K h2) (X1 : Int32) : ob h 0 10 ∧ wp_X11_instead h 0 X1 (fun h1 v1 => ob h1 92 11 ∧ wp_X12_instead h1 92 X1 (Ag K v1)) := by
  obtain ⟨la, fr, qa, ac, I⟩ := R
  have e := x_instead I (lo32 X1) (up32 X1) hK
  simp only [iI_of] at e
  exact ⟨I.1.o0, e⟩
theorem g_least (R : RtI i h) (hi : i ≤ 512) (hK : ∀ h2, RtI (i + 1) h2 → K h2) (X1 : Int32) : ob h 0 10 ∧ wp_X11_least h 0 X1 (fun h1 v1 => ob h1 92 11 ∧ wp_X12_least h1 92 X1 (Ag K v1)) := by
  obtain ⟨la, fr, qa, ac, I⟩ := R
  have e := x_least I hi (lo32 X1) (up32 X1) hK
  simp only [iI_of] at e
  exact ⟨I.1.o0, e⟩
theorem g_changed (R : RtI i h) (hi : i ≤ 512) (hK : ∀ h2, RtI (i + 1) h2 → K h2) (X1 X2 X3 : Int32) : ob h 0 10 ∧ wp_X11_changed h 0 X1 X2 X3 (fun h1 v1 => ob h1 92 11 ∧ wp_X12_changed h1 92 X1 X2 X3 (Ag K v1)) := by
  obtain ⟨la, fr, qa, ac, I⟩ := R
  have e := x_changed I hi (lo32 X1) (up32 X1) (lo32 X2) (up32 X2) (lo32 X3) (up32 X3) hK
  simp only [iI_of] at e
  exact ⟨I.1.o0, e⟩
theorem g_alone (R : RtI i h) (hi : i ≤ 512) (hK : ∀ h2, RtI (i + 1) h2 → K h2) (X1 X2 X3 X4 X5 : Int32) : ob h 0 10 ∧ wp_X11_alone h 0 X1 X2 X3 X4 X5 (fun h1 v1 => ob h1 92 11 ∧ wp_X12_alone h1 92 X1 X2 X3 X4 X5 (Ag K v1)) := by
  obtain ⟨la, fr, qa, ac, I⟩ := R
  have e := x_alone I hi (lo32 X1) (up32 X1) (lo32 X2) (up32 X2) (lo32 X3) (up32 X3) (lo32 X4) (up32 X4) (lo32 X5) (up32 X5) hK
  simp only [iI_of] at e
  exact ⟨I.1.o0, e⟩
theorem g_best (R : RtI i h) (hi : i ≤ 512) (hK : ∀ h2, RtI (i + 1) h2 → K h2) (X1 X2 : Int32) : ob h 0 10 ∧ wp_X11_best h 0 X1 X2 (fun h1 v1 => ob h1 92 11 ∧ wp_X12_best h1 92 X1 X2 (Ag K v1)) := by
  obtain ⟨la, fr, qa, ac, I⟩ := R
  have e := x_best I hi (lo32 X1) (up32 X1) (lo32 X2) (up32 X2) hK
  simp only [iI_of] at e
  exact ⟨I.1.o0, e⟩
theorem g_found (R : RtI i h) (hK : ∀ h2, RtI (i + 1) h2 → K h2) (X1 : Int32) : ob h 0 10 ∧ wp_X11_found h 0 X1 (fun h1 v1 => ob h1 92 11 ∧ wp_X12_found h1 92 X1 (Ag K v1)) := by
  obtain ⟨la, fr, qa, ac, I⟩ := R
  have e := x_found I (lo32 X1) (up32 X1) hK
  simp only [iI_of] at e
  exact ⟨I.1.o0, e⟩
theorem g_all (R : RtI i h) (hK : ∀ h2, RtI (i + 1) h2 → K h2) : ob h 0 10 ∧ wp_X11_all h 0  (fun h1 v1 => ob h1 92 11 ∧ wp_X12_all h1 92  (Ag K v1)) := by
  obtain ⟨la, fr, qa, ac, I⟩ := R
  have e := x_all I hK
  exact ⟨I.1.o0, e⟩
theorem g_allAt (R : RtI i h) (hK : ∀ h2, RtI (i + 1) h2 → K h2) (X1 X2 : Int32) : ob h 0 10 ∧ wp_X11_allAt h 0 X1 X2 (fun h1 v1 => ob h1 92 11 ∧ wp_X12_allAt h1 92 X1 X2 (Ag K v1)) := by
  obtain ⟨la, fr, qa, ac, I⟩ := R
  have e := x_allAt I (lo32 X1) (up32 X1) (lo32 X2) (up32 X2) hK
  simp only [iI_of] at e
  exact ⟨I.1.o0, e⟩
theorem g_left (R : RtI i h) (hK : ∀ h2, RtI (i + 1) h2 → K h2) : ob h 0 10 ∧ wp_X11_left h 0  (fun h1 v1 => ob h1 92 11 ∧ wp_X12_left h1 92  (Ag K v1)) := by
  obtain ⟨la, fr, qa, ac, I⟩ := R
  have e := x_left I hK
  exact ⟨I.1.o0, e⟩
theorem g_could (R : RtI i h) (hK : ∀ h2, RtI (i + 1) h2 → K h2) (X1 X2 X3 X4 : Int32) : ob h 0 10 ∧ wp_X11_could h 0 X1 X2 X3 X4 (fun h1 v1 => ob h1 92 11 ∧ wp_X12_could h1 92 X1 X2 X3 X4 (Ag K v1)) := by
  obtain ⟨la, fr, qa, ac, I⟩ := R
  have e := x_could I (lo32 X1) (up32 X1) (lo32 X2) (up32 X2) (lo32 X3) (up32 X3) (lo32 X4) (up32 X4) hK
  simp only [iI_of] at e
  exact ⟨I.1.o0, e⟩
theorem g_storm (R : RtI i h) (hK : ∀ h2, RtI (i + 1) h2 → K h2) (X1 : Int32) : ob h 0 10 ∧ wp_X11_storm h 0 X1 (fun h1 v1 => ob h1 92 11 ∧ wp_X12_storm h1 92 X1 (Ag K v1)) := by
  obtain ⟨la, fr, qa, ac, I⟩ := R
  have e := x_storm I (lo32 X1) (up32 X1) hK
  simp only [iI_of] at e
  exact ⟨I.1.o0, e⟩
theorem g_cut (R : RtI i h) (hK : ∀ h2, RtI (i + 1) h2 → K h2) (X1 X2 X3 : Int32) : ob h 0 10 ∧ wp_X11_cut h 0 X1 X2 X3 (fun h1 v1 => ob h1 92 11 ∧ wp_X12_cut h1 92 X1 X2 X3 (Ag K v1)) := by
  obtain ⟨la, fr, qa, ac, I⟩ := R
  have e := x_cut I (lo32 X1) (up32 X1) (lo32 X2) (up32 X2) (lo32 X3) (up32 X3) hK
  simp only [iI_of] at e
  exact ⟨I.1.o0, e⟩
theorem g_image (R : RtI i h) (hi : i ≤ 512) (hK : ∀ h2, RtI (i + 1) h2 → K h2) (X1 : Int32) : ob h 0 10 ∧ wp_X11_image h 0 X1 (fun h1 v1 => ob h1 92 11 ∧ wp_X12_image h1 92 X1 (Ag K v1)) := by
  obtain ⟨la, fr, qa, ac, I⟩ := R
  have e := x_image I hi (lo32 X1) (up32 X1) hK
  simp only [iI_of] at e
  exact ⟨I.1.o0, e⟩
theorem g_restore (R : RtI i h) (hK : ∀ h2, RtI (i + 1) h2 → K h2) (X1 : Int32) : ob h 0 10 ∧ wp_X11_restore h 0 X1 (fun h1 v1 => ob h1 92 11 ∧ wp_X12_restore h1 92 X1 (Ag K v1)) := by
  obtain ⟨la, fr, qa, ac, I⟩ := R
  have e := x_restore I (lo32 X1) (up32 X1) hK
  simp only [iI_of] at e
  exact ⟨I.1.o0, e⟩
theorem g_count (R : RtI i h) (hK : ∀ h2, RtI (i + 1) h2 → K h2) (X1 : Int32) : ob h 0 10 ∧ wp_X11_count h 0 X1 (fun h1 v1 => ob h1 92 11 ∧ wp_X12_count h1 92 X1 (Ag K v1)) := by
  obtain ⟨la, fr, qa, ac, I⟩ := R
  have e := x_count I (lo32 X1) (up32 X1) hK
  simp only [iI_of] at e
  exact ⟨I.1.o0, e⟩
set_option maxRecDepth 100000 in
theorem law_step {K3 : AH → Nat → Nat → Nat → Int32 → Prop} {X : Int32} (R : RtI i h) (hi : i ≤ 512) (q0 : vp_in X L) (q1 : vp_in (X + 1) L) (q2 : vp_in (X + 2) L) (q3 : vp_in (X + 3) L) (q4 : vp_in (X + 4) L) (q5 : vp_in (X + 5) L) (hK : ∀ h2, RtI (i + 1) h2 → wb_L_law_1373 K3 h2 0 92 118 X xs L) : wb_L_law_23 K3 h 0 92 118 X xs L := by
  unfold wb_L_law_23 wb_L_law_434 wb_L_law_751
  refine ⟨fun _ => rfl, fun _ => ?_⟩
  simp only [q0, q1, q2, q3, q4, q5, true_and]
  exact ⟨fun _ => g_feed (K := fun h2 => wb_L_law_1373 K3 h2 0 92 118 X xs L) R hK _ _ _ _ _,
    fun _ => g_end (K := fun h2 => wb_L_law_1373 K3 h2 0 92 118 X xs L) R hK _,
    fun _ => g_lagoon (K := fun h2 => wb_L_law_1373 K3 h2 0 92 118 X xs L) R hK,
    fun _ => g_fault (K := fun h2 => wb_L_law_1373 K3 h2 0 92 118 X xs L) R hK,
    fun _ => g_water (K := fun h2 => wb_L_law_1373 K3 h2 0 92 118 X xs L) R hK _ _ _,
    fun _ => g_raft (K := fun h2 => wb_L_law_1373 K3 h2 0 92 118 X xs L) R hi hK _ _,
    fun _ => g_at (K := fun h2 => wb_L_law_1373 K3 h2 0 92 118 X xs L) R hK _ _,
    fun _ => g_lay (K := fun h2 => wb_L_law_1373 K3 h2 0 92 118 X xs L) R hK,
    fun _ => g_aground (K := fun h2 => wb_L_law_1373 K3 h2 0 92 118 X xs L) R hK _,
    fun _ => g_breaks (K := fun h2 => wb_L_law_1373 K3 h2 0 92 118 X xs L) R hK _,
    fun _ => g_floats (K := fun h2 => wb_L_law_1373 K3 h2 0 92 118 X xs L) R hK _,
    fun _ => g_gap (K := fun h2 => wb_L_law_1373 K3 h2 0 92 118 X xs L) R hK _ _,
    fun _ => g_move (K := fun h2 => wb_L_law_1373 K3 h2 0 92 118 X xs L) R hK _ _ _,
    fun _ => g_wants (K := fun h2 => wb_L_law_1373 K3 h2 0 92 118 X xs L) R hK _,
    fun _ => g_plan (K := fun h2 => wb_L_law_1373 K3 h2 0 92 118 X xs L) R hK,
    fun _ => g_act (K := fun h2 => wb_L_law_1373 K3 h2 0 92 118 X xs L) R hi hK _ _,
    fun _ => g_judge (K := fun h2 => wb_L_law_1373 K3 h2 0 92 118 X xs L) R hK _,
    fun _ => g_judged (K := fun h2 => wb_L_law_1373 K3 h2 0 92 118 X xs L) R hK _,
    fun _ => g_judgedAt (K := fun h2 => wb_L_law_1373 K3 h2 0 92 118 X xs L) R hK _ _,
    fun _ => g_tooMany (K := fun h2 => wb_L_law_1373 K3 h2 0 92 118 X xs L) R hK _,
    fun _ => g_instead (K := fun h2 => wb_L_law_1373 K3 h2 0 92 118 X xs L) R hK _,
    fun _ => g_least (K := fun h2 => wb_L_law_1373 K3 h2 0 92 118 X xs L) R hi hK _,
    fun _ => g_changed (K := fun h2 => wb_L_law_1373 K3 h2 0 92 118 X xs L) R hi hK _ _ _,
    fun _ => g_alone (K := fun h2 => wb_L_law_1373 K3 h2 0 92 118 X xs L) R hi hK _ _ _ _ _,
    fun _ => g_best (K := fun h2 => wb_L_law_1373 K3 h2 0 92 118 X xs L) R hi hK _ _,
    fun _ => g_found (K := fun h2 => wb_L_law_1373 K3 h2 0 92 118 X xs L) R hK _,
    fun _ => g_all (K := fun h2 => wb_L_law_1373 K3 h2 0 92 118 X xs L) R hK,
    fun _ => g_allAt (K := fun h2 => wb_L_law_1373 K3 h2 0 92 118 X xs L) R hK _ _,
    fun _ => g_left (K := fun h2 => wb_L_law_1373 K3 h2 0 92 118 X xs L) R hK,
    fun _ => g_could (K := fun h2 => wb_L_law_1373 K3 h2 0 92 118 X xs L) R hK _ _ _ _,
    fun _ => g_storm (K := fun h2 => wb_L_law_1373 K3 h2 0 92 118 X xs L) R hK _,
    fun _ => g_cut (K := fun h2 => wb_L_law_1373 K3 h2 0 92 118 X xs L) R hK _ _ _,
    fun _ => g_image (K := fun h2 => wb_L_law_1373 K3 h2 0 92 118 X xs L) R hi hK _,
    fun _ => g_restore (K := fun h2 => wb_L_law_1373 K3 h2 0 92 118 X xs L) R hK _,
    fun _ => g_count (K := fun h2 => wb_L_law_1373 K3 h2 0 92 118 X xs L) R hK _,
    fun _ => hK h (by
      obtain ⟨la, fr, qa, ac, I⟩ := R
      exact ⟨_, _, _, _, I.up⟩)⟩
theorem law_loop (hL : L ≤ 3072) : ∀ (d k : Nat) (h : AH), RtI k h → k ≤ 512 → L < 6 * k + 6 * d + 6 → wl_L_law_23 xs L (d + 1) h 0 92 118 (iI (6 * k))
  | d, k, h, R, hk, hd => by
    have eL : nI L - 6 = iI (L - 6) := by
      rw [show nI L = iI L from (iI_nat (a := (L : Int)) (Int.natCast_nonneg L)).symm, show (6 : Int32) = iI 6 from rfl, iI_sub]
    unfold wl_L_law_23
    by_cases c : 6 * k + 6 ≤ L
    case neg =>
      unfold wb_L_law_23
      refine ⟨fun _ => rfl, fun q => absurd ?_ q⟩
      rw [eL, iI_lt (by omega) (by omega) (by omega) (by omega)]
      omega
    have vp : ∀ j : Int, 0 ≤ j → j ≤ 5 → vp_in (iI (6 * k) + iI j) L := fun j j0 j5 => by
      rw [iI_add]
      exact iI_in (by omega) (by omega) (by omega)
    refine law_step R (by omega) (iI_in (by omega) (by omega) (by omega)) (vp 1 (by omega) (by omega)) (vp 2 (by omega) (by omega)) (vp 3 (by omega) (by omega)) (vp 4 (by omega) (by omega)) (vp 5 (by omega) (by omega)) fun h2 R2 => ?_
    unfold wb_L_law_1373
    intro iv e
    have e6 : iv = iI (6 * (k + 1 : Nat)) := by
      rw [e, show (6 : Int32) = iI 6 from rfl, iI_add]
      congr 1
    rw [e6]
    match d, hd with
    | 0, hd => exact absurd hd (by omega)
    | d + 1, hd => exact law_loop hL d (k + 1) h2 R2 (by omega) (by omega)
end LAW
