/-! the first cells: lists of what stands in them -/
def tabW : List Int32 := [0, 18, 591, 18935, 0, 20, 649, 20772, 664709, 0, 18, 577, 18470, 591060, 0, 16, 527, 16876, 540037, 0, 18, 591, 18928, 605701, 0, 13, 431, 13807, 441842, 0, 2, 69, 2227, 71273, 2280740, 72983685, 0, 1, 48, 1537, 49202, 1574484, 0, 19, 629, 20142, 0, 12, 393, 12581, 402611, 0, 19, 625, 20021, 640673, 20501554, 656049733, 0, 14, 463, 14834, 474708, 15190664, 0, 5, 161, 5171, 165492, 0, 19, 623, 19957, 638644, 20436616, 0, 23, 741, 23731, 759412, 0, 19, 620, 19849, 635172, 20325509, 0, 20, 661, 21170, 677454, 0, 23, 737, 23593, 754996, 0]
def tabC : List Nat := [0, 0, 0, 0, 1, 1, 1, 1, 1, 2, 2, 2, 2, 2, 3, 3, 3, 3, 3, 4, 4, 4, 4, 4, 5, 5, 5, 5, 5, 6, 6, 6, 6, 6, 6, 6, 7, 7, 7, 7, 7, 7, 8, 8, 8, 8, 9, 9, 9, 9, 9, 10, 10, 10, 10, 10, 10, 10, 11, 11, 11, 11, 11, 11, 12, 12, 12, 12, 12, 13, 13, 13, 13, 13, 13, 14, 14, 14, 14, 14, 15, 15, 15, 15, 15, 15, 16, 16, 16, 16, 16, 17, 17, 17, 17, 17, 18]
def tabL : List Int32 := [18935, 664709, 591060, 540037, 605701, 441842, 72983685, 1574484, 20142, 402611, 656049733, 15190664, 165492, 20436616, 759412, 20325509, 677454, 754996]
theorem tab_step : ∀ n, n < 96 → tabC.getD n 0 < 18 ∧ (¬ stb.getD n 0 = 32 → tabW.getD (n + 1) 0 = (tabW.getD n 0 <<< ((5 : Int32) &&& 31)) ||| ((stb.getD n 0 - (97 : Int32)) + (1 : Int32)) ∧ tabC.getD (n + 1) 0 = tabC.getD n 0) ∧ (stb.getD n 0 = 32 → tabL.getD (tabC.getD n 0) 0 = tabW.getD n 0 ∧ tabW.getD (n + 1) 0 = 0 ∧ tabC.getD (n + 1) 0 = tabC.getD n 0 + 1) := by decide +kernel
theorem tab_w5 : ∀ n, n < 18 → (tabL.getD n 0).toInt = w5 (kwL.getD n []) := by decide +kernel
def wrL (n : Nat) (l : List Int32) (f : Nat) (v : Int32) : List Int32 := (List.range n).map (fun i => if i = f then v else l.getD i 0)
theorem wrL_len {n f : Nat} {l : List Int32} {v : Int32} : (wrL n l f v).length = n := by
  unfold wrL
  rw [List.length_map, List.length_range]
theorem wrL_get {n f i : Nat} {l : List Int32} {v : Int32} (hi : i < n) : (wrL n l f v).getD i 0 = if i = f then v else l.getD i 0 := by
  unfold wrL
  rw [List.getD_eq_getElem?_getD, List.getElem?_map, List.getElem?_range hi]
  rfl
/-- cells (kind and length, the newest first), pointers, rows that aren't all 0, rows of longs that aren't, slots -/
def Zb (h : AH) (cs : List (Nat × Nat)) (ps : List ((Nat × Nat) × Nat)) (vs : List (Nat × List Int32)) (js : List Nat) (S : Nat) : Prop :=
  aN h = cs.length ∧ aS h = S ∧ (∀ j, j < cs.length → aK h j = (lk cs j).1 ∧ aL h j = (lk cs j).2) ∧ (∀ p, p ∈ ps → p.1.1 < cs.length ∧ aP h p.1.1 p.1.2 = some p.2) ∧ (∀ j k, j < cs.length → (j, k) ∉ ps.map Prod.fst → aP h j k = none) ∧
  (∀ j, j < cs.length → j ∉ vs.map Prod.fst → aI h j = fun _ => 0) ∧ (∀ j, j < cs.length → j ∉ js → aJ h j = fun _ => 0) ∧ (∀ v, v ∈ vs → v.1 < cs.length ∧ ∀ i, i < v.2.length → aI h v.1 i = v.2.getD i 0)
section ZBS
variable {h h' h0 : AH} {o ok f kd len t n S S' : Nat} {cs : List (Nat × Nat)} {ps : List ((Nat × Nat) × Nat)} {vs : List (Nat × List Int32)} {js : List Nat} {l : List Int32} {v : Int32} {REST : AH → Prop} {REST2 : AH → Nat → Prop} {post : AH → Prop}
theorem Zb.oo (B : Zb h cs ps vs js S) (c : o < cs.length ∧ (lk cs o).1 = ok) : ob h o ok := ⟨(B.2.2.1 o c.1).1.trans c.2, by rw [B.1]; exact c.1⟩
theorem Zb.ll (B : Zb h cs ps vs js S) (c : o < cs.length ∧ (lk cs o).2 = len) : aL h o = len := (B.2.2.1 o c.1).2.trans c.2
theorem Zb.pp (B : Zb h cs ps vs js S) (c : ((o, f), t) ∈ ps) : aP h o f = some t := (B.2.2.2.1 _ c).2
theorem Zb.pn (B : Zb h cs ps vs js S) (c : o < cs.length ∧ (o, f) ∉ ps.map Prod.fst) : aP h o f = none := B.2.2.2.2.1 _ _ c.1 c.2
theorem Zb.i0 (B : Zb h cs ps vs js S) (c : o < cs.length ∧ o ∉ vs.map Prod.fst) (i : Int) : rd h o i = 0 := by
  unfold rd
  rw [B.2.2.2.2.2.1 o c.1 c.2]
  split <;> rfl
theorem Zb.j0 (B : Zb h cs ps vs js S) (c : o < cs.length ∧ o ∉ js) : aJ h o = fun _ => 0 := B.2.2.2.2.2.2.1 o c.1 c.2
theorem Zb.vv (B : Zb h cs ps vs js S) (c : (o, l) ∈ vs) {i : Int} (i0 : 0 ≤ i) (i1 : i.toNat < l.length) : rd h o i = (l.getD i.toNat 0).toInt := by
  unfold rd
  rw [if_pos i0, (B.2.2.2.2.2.2.2 _ c).2 _ i1]
theorem Zb.new (B : Zb h cs ps vs js S) (e : S + len = S') : Zb (hNew h kd len) ((kd, len) :: cs) ps vs js S' := by
  obtain ⟨b1, b2, b3, b4, b5, b6, b7, b8⟩ := B
  refine ⟨by show aN h + 1 = _; rw [b1, List.length_cons], by show aS h + len = _; rw [b2, e], fun j hj => ?_, fun p hp => ?_, fun j k hj hk => ?_, fun j hj hv => ?_, fun j hj hv => ?_, fun v hv => ?_⟩
  · rw [List.length_cons] at hj
    by_cases c : j = cs.length
    · subst c
      rw [lk_new, ← b1]
      exact ⟨up_s _ _ _, up_s _ _ _⟩
    · rw [lk_old (by omega)]
      have := b3 j (by omega)
      exact ⟨(up_n (by omega)).trans this.1, (up_n (by omega)).trans this.2⟩
  · have := b4 p hp
    exact ⟨by rw [List.length_cons]; omega, (congrFun (up_n (by omega)) _).trans this.2⟩
  · rw [List.length_cons] at hj
    by_cases c : j = cs.length
    · subst c
      rw [← b1]
      exact congrFun (up_s _ _ _) k
    · exact (congrFun (up_n (by omega)) k).trans (b5 j k (by omega) hk)
  · rw [List.length_cons] at hj
    by_cases c : j = cs.length
    · subst c
      rw [← b1]
      exact up_s _ _ _
    · exact (up_n (by omega)).trans (b6 j (by omega) hv)
  · rw [List.length_cons] at hj
    by_cases c : j = cs.length
    · subst c
      rw [← b1]
      exact up_s _ _ _
    · exact (up_n (by omega)).trans (b7 j (by omega) hv)
  · have := b8 v hv
    exact ⟨by rw [List.length_cons]; omega, fun i hi => (congrFun (up_n (by omega)) i).trans (this.2 i hi)⟩
theorem Zb.st (B : Zb h cs ps vs js S) (ho : o < cs.length) (hf : (o, f) ∉ ps.map Prod.fst) : Zb (hP h o f t) cs (((o, f), t) :: ps) vs js S := by
  obtain ⟨b1, b2, b3, b4, b5, b6, b7, b8⟩ := B
  have hn : ∀ p, p ∈ ps → p.1 ≠ (o, f) := fun p hp e => hf (List.mem_map.mpr ⟨p, hp, e⟩)
  refine ⟨b1, b2, b3, fun p hp => ?_, fun j k hj hk => ?_, b6, b7, b8⟩
  · rcases List.mem_cons.mp hp with e | e
    · rw [e]
      refine ⟨ho, ?_⟩
      show aP (hP h o f t) o f = _
      rw [aP_hP, if_pos rfl]
    · have hn := hn p e
      refine ⟨(b4 p e).1, ?_⟩
      by_cases c : p.1.1 = o
      · rw [c, aP_hP, if_neg (fun q => hn (by rw [← c, ← q]))]
        have := (b4 p e).2
        rw [c] at this
        exact this
      · exact (congrFun (up_n c) _).trans (b4 p e).2
  · rw [List.map_cons, List.mem_cons, not_or] at hk
    by_cases c : j = o
    · subst c
      rw [aP_hP, if_neg (fun q => hk.1 (by rw [q]))]
      exact b5 j k hj hk.2
    · exact (congrFun (up_n c) k).trans (b5 j k hj hk.2)
theorem Zb.fr (B : Zb h cs ps vs js S) (F : Fr [o] [] [] h h') (c : o < cs.length ∧ o ∉ vs.map Prod.fst) (hl : ∀ i, i < l.length → aI h' o i = l.getD i 0) : Zb h' cs ps ((o, l) :: vs) js S := by
  obtain ⟨b1, b2, b3, b4, b5, b6, b7, b8⟩ := B
  have eP := F.aPe
  refine ⟨by rw [F.1]; exact b1, by rw [F.2.1]; exact b2, fun j hj => by rw [F.2.2.1, F.2.2.2.1]; exact b3 j hj, fun p hp => by rw [eP]; exact b4 p hp, fun j k hj hk => by rw [eP]; exact b5 j k hj hk, fun j hj hv => ?_, fun j hj hv => by rw [F.2.2.2.2.2.1 _ List.not_mem_nil]; exact b7 j hj hv, fun v hv => ?_⟩
  · rw [List.map_cons, List.mem_cons, not_or] at hv
    rw [F.2.2.2.2.1 _ (by simp; exact hv.1)]
    exact b6 j hj hv.2
  · rcases List.mem_cons.mp hv with e | e
    · subst e
      exact ⟨c.1, hl⟩
    · have hne : v.1 ≠ o := fun q => c.2 (by rw [← q]; exact List.mem_map.mpr ⟨v, e, rfl⟩)
      refine ⟨(b8 v e).1, fun i hi => ?_⟩
      rw [F.2.2.2.2.1 _ (by simp; exact hne)]
      exact (b8 v e).2 i hi
theorem Zb.frJ (B : Zb h cs ps vs js S) (F : Fr [] [o] [] h h') : Zb h' cs ps vs (o :: js) S := by
  obtain ⟨b1, b2, b3, b4, b5, b6, b7, b8⟩ := B
  have eP := F.aPe
  refine ⟨by rw [F.1]; exact b1, by rw [F.2.1]; exact b2, fun j hj => by rw [F.2.2.1, F.2.2.2.1]; exact b3 j hj, fun p hp => by rw [eP]; exact b4 p hp, fun j k hj hk => by rw [eP]; exact b5 j k hj hk, fun j hj hv => by rw [F.2.2.2.2.1 _ List.not_mem_nil]; exact b6 j hj hv, fun j hj hv => ?_, fun v hv => ?_⟩
  · rw [List.mem_cons, not_or] at hv
    rw [F.2.2.2.2.2.1 _ (by simp; exact hv.1)]
    exact b7 j hj hv.2
  · refine ⟨(b8 v hv).1, fun i hi => ?_⟩
    rw [F.2.2.2.2.1 _ List.not_mem_nil]
    exact (b8 v hv).2 i hi
theorem aI_own (h : AH) (o f : Nat) (v : Int32) (i : Nat) : aI (hI h o f v) o i = if i = f then v else aI h o i := by
  show va_up (aI h) o (upd (aI h o) f v) o i = _
  rw [up_s]
  rfl
theorem Zb.w0 (B : Zb h cs ps vs js S) (c : o < cs.length ∧ o ∉ vs.map Prod.fst) (n : Nat) (e : h' = hI h o f v) : Zb h' cs ps ((o, wrL n [] f v) :: vs) js S := by
  refine B.fr (e ▸ fr_hI) c fun i hi => ?_
  rw [wrL_len] at hi
  rw [wrL_get hi, e, aI_own, B.2.2.2.2.2.1 o c.1 c.2]
  rfl
theorem Zb.w1 (B : Zb h cs ps ((o, l) :: vs) js S) (c : o ∉ vs.map Prod.fst) (e : h' = hI h o f v) : Zb h' cs ps ((o, wrL l.length l f v) :: vs) js S := by
  obtain ⟨b1, b2, b3, b4, b5, b6, b7, b8⟩ := B
  have F : Fr [o] [] [] h h' := e ▸ fr_hI
  have eP := F.aPe
  refine ⟨by rw [F.1]; exact b1, by rw [F.2.1]; exact b2, fun j hj => by rw [F.2.2.1, F.2.2.2.1]; exact b3 j hj, fun p hp => by rw [eP]; exact b4 p hp, fun j k hj hk => by rw [eP]; exact b5 j k hj hk, fun j hj hv => ?_, fun j hj hv => by rw [F.2.2.2.2.2.1 _ List.not_mem_nil]; exact b7 j hj hv, fun v hv => ?_⟩
  · rw [List.map_cons, List.mem_cons, not_or] at hv
    rw [F.2.2.2.2.1 _ (by simp; exact hv.1)]
    exact b6 j hj (by rw [List.map_cons, List.mem_cons, not_or]; exact hv)
  · rcases List.mem_cons.mp hv with q | q
    · subst q
      have := b8 (o, l) List.mem_cons_self
      refine ⟨this.1, fun i hi => ?_⟩
      have hi : i < l.length := by
        have : i < (wrL l.length l f _).length := hi
        rw [wrL_len] at this
        exact this
      show aI h' o i = (wrL l.length l f _).getD i 0
      rw [wrL_get hi, e, aI_own, this.2 i hi]
    · have hne : v.1 ≠ o := fun u => c (by rw [← u]; exact List.mem_map.mpr ⟨v, q, rfl⟩)
      have := b8 v (List.mem_cons_of_mem _ q)
      refine ⟨this.1, fun i hi => ?_⟩
      rw [F.2.2.2.2.1 _ (by simp; exact hne)]
      exact this.2 i hi
/-- an array made and kept in a field -/
theorem Zb.al (B : Zb h cs ps vs js S) (n : Nat) (c : cs.length = n ∧ o < cs.length ∧ (lk cs o).1 = ok ∧ (o, f) ∉ ps.map Prod.fst ∧ n < 601024 ∧ S + len = S' ∧ S' ≤ 7293034)
    (k : ∀ h', Zb h' ((kd, len) :: cs) (((o, f), n) :: ps) vs js S' → REST h') : (aN h < 601024 ∧ aS h + len ≤ 7293034) ∧ ∀ (hv1 : AH) (rv2 : Nat), hv1 = hNew h kd len → rv2 = aN h → (ob hv1 o ok) ∧ ∀ hv3 : AH, hv3 = hP hv1 o f rv2 → REST hv3 := by
  obtain ⟨c1, c2, c3, c4, c5, c6, c7⟩ := c
  refine ⟨⟨by rw [B.1, c1]; exact c5, by rw [B.2.1, c6]; exact c7⟩, fun h1 r1 e1 e2 => ?_⟩
  have B1 : Zb h1 ((kd, len) :: cs) ps vs js S' := e1 ▸ B.new c6
  refine ⟨B1.oo ⟨by rw [List.length_cons]; omega, by rw [lk_old c2]; exact c3⟩, fun h3 e3 => ?_⟩
  rw [e2, B.1, c1] at e3
  exact k h3 (e3 ▸ B1.st (by rw [List.length_cons]; omega) c4)
/-- an object made -/
theorem Zb.mk (B : Zb h cs ps vs js S) (n : Nat) (c : cs.length = n ∧ n < 601024 ∧ S + len = S' ∧ S' ≤ 7293034)
    (k : ∀ h', Zb h' ((kd, len) :: cs) ps vs js S' → REST2 h' n) : (aN h < 601024 ∧ aS h + len ≤ 7293034) ∧ ∀ (hv1 : AH) (rv2 : Nat), hv1 = hNew h kd len → rv2 = aN h → REST2 hv1 rv2 := by
  obtain ⟨c1, c5, c6, c7⟩ := c
  refine ⟨⟨by rw [B.1, c1]; exact c5, by rw [B.2.1, c6]; exact c7⟩, fun h1 r1 e1 e2 => ?_⟩
  rw [e2, B.1, c1]
  exact k h1 (e1 ▸ B.new c6)
/-- a pointer kept in a field -/
theorem Zb.pt (B : Zb h cs ps vs js S) (c : o < cs.length ∧ (lk cs o).1 = ok ∧ (o, f) ∉ ps.map Prod.fst) (k : ∀ h', Zb h' cs (((o, f), t) :: ps) vs js S → REST h') : (ob h o ok) ∧ ∀ hv3 : AH, hv3 = hP h o f t → REST hv3 :=
  ⟨B.oo ⟨c.1, c.2.1⟩, fun h3 e3 => k h3 (e3 ▸ B.st c.1 c.2.2)⟩
/-- the words that are no names, out of the one text -/
theorem tx_loop {ci al cl : Nat} (O : ob h0 al ci) (P : aP h0 al 0 = some cl) (O1 : ob h0 cl 13) (L1 : aL h0 cl = 18) (K : ∀ h', Fr [cl] [] [] h0 h' → (∀ j, j < 18 → aI h' cl j = tabL.getD j 0) → post h') : ∀ (d n : Nat) (h : AH), n + d = 96 → Fr [cl] [] [] h0 h → (∀ j, j < tabC.getD n 0 → aI h cl j = tabL.getD j 0) → wl_X7_init_25 ci post (d + 1) h al (iI (tabC.getD n 0 : Nat)) (tabW.getD n 0) (iI n)
  | d, n, h, hd, F, V => by
    unfold wl_X7_init_25 wb_X7_init_25
    rw [show (96 : Int32) = iI 96 from rfl, show (18 : Int32) = iI 18 from rfl]
    by_cases c : n < 96
    case neg =>
      have n96 : n = 96 := by omega
      subst n96
      refine ⟨fun _ => K h F V, fun q => absurd ?_ q⟩
      rw [iI_le (by omega) (by omega) (by omega) (by omega)]
      omega
    obtain ⟨t1, t2, t3⟩ := tab_step n c
    match d, hd with
    | 0, hd => exact absurd hd (by omega)
    | d + 1, hd =>
    have nx : ∀ g, Fr [cl] [] [] h0 g → (∀ j, j < tabC.getD (n + 1) 0 → aI g cl j = tabL.getD j 0) → wb_X7_init_82 ci (wl_X7_init_25 ci post (d + 1)) g al (iI (tabC.getD (n + 1) 0 : Nat)) (tabW.getD (n + 1) 0) (iI n) post := fun g Fg Vg => by
      unfold wb_X7_init_82
      intro iv e
      rw [e, show (1 : Int32) = iI 1 from rfl, iI_add]
      exact tx_loop O P O1 L1 K d (n + 1) g (by omega) Fg Vg
    refine ⟨fun q => absurd q ?_, fun _ => ⟨fun q => absurd q ?_, fun _ => ⟨n, c, (iI_nat (a := (n : Int)) (Int.natCast_nonneg n)), fun q => ⟨n, c, (iI_nat (a := (n : Int)) (Int.natCast_nonneg n)), fun iv e => ?_⟩, fun q => ?_⟩⟩⟩
    · rw [iI_le (by omega) (by omega) (by omega) (by omega)]
      omega
    · rw [iI_le (by omega) (by omega) (by omega) (by omega)]
      omega
    · obtain ⟨w1, w2⟩ := t2 q
      rw [e, ← w1, ← w2]
      exact nx h F (by rw [w2]; exact V)
    · obtain ⟨w1, w2, w3⟩ := t3 q
      have ob1 : ∀ {a k}, ob h0 a k → ob h a k := fun o => ⟨by rw [F.2.2.1]; exact o.1, by rw [F.1]; exact o.2⟩
      refine ⟨ob1 O, cl, by rw [F.aPe]; exact P, ob1 O1, by rw [F.2.2.2.1, L1]; exact iI_in (by omega) (by omega) (by omega), fun g e => ?_⟩
      intro iv ei
      rw [iI_n (by omega) (by omega), Int.toNat_natCast] at e
      have e1 : iv = iI (tabC.getD (n + 1) 0 : Nat) := by
        rw [ei, show (1 : Int32) = iI 1 from rfl, iI_add, w3]
        rfl
      rw [e1, ← w2]
      refine nx g (F.trans (e ▸ fr_hI)) fun j hj => ?_
      rw [e, aI_own]
      by_cases cj : j = tabC.getD n 0
      · rw [if_pos cj, cj, w1]
      · rw [if_neg cj]
        exact V j (by omega)
theorem c_textInit {ci al : Nat} (n : Nat) (B : Zb h cs ps vs js S) (c : (cs.length = n ∧ al < cs.length ∧ (lk cs al).1 = ci ∧ (al, 0) ∉ ps.map Prod.fst ∧ n < 601024 ∧ S + 18 = S' ∧ S' ≤ 7293034) ∧ (al, 1) ∉ (((al, 0), n) :: ps).map Prod.fst ∧ n ∉ vs.map Prod.fst ∧ n + 1 < 601024)
    (k : ∀ h', Zb h' ((12, 0) :: (13, 18) :: cs) (((al, 1), n + 1) :: ((al, 0), n) :: ps) ((n, tabL) :: vs) js S' → post h') : wp_X7_init ci h al post := by
  obtain ⟨c1, c2, c3, c4⟩ := c
  unfold wp_X7_init
  refine ⟨by decide, Zb.al (len := 18) B n c1 fun g1 B1 => ?_⟩
  have ho : (lk ((13, 18) :: cs) al).1 = ci := by rw [lk_old c1.2.1]; exact c1.2.2.1
  refine ⟨by decide, Zb.al (len := 0) B1 (n + 1) ⟨by rw [List.length_cons, c1.1], by rw [List.length_cons]; omega, ho, c2, c4, Nat.add_zero _, c1.2.2.2.2.2.2⟩ fun g2 B2 => ⟨97, ?_⟩⟩
  have l1 : al < ((12, 0) :: (13, 18) :: cs).length := by
    rw [List.length_cons, List.length_cons]
    omega
  have l2 : n < ((12, 0) :: (13, 18) :: cs).length := by
    rw [List.length_cons, List.length_cons, c1.1]
    omega
  have ln : lk ((12, 0) :: (13, 18) :: cs) n = (13, 18) := by
    rw [lk_old (by rw [List.length_cons, c1.1]; omega), ← c1.1, lk_new]
  refine tx_loop (h0 := g2) (cl := n) (B2.oo ⟨l1, ?_⟩) (B2.pp (by simp)) (B2.oo ⟨l2, by rw [ln]⟩) (B2.ll ⟨l2, by rw [ln]⟩) (fun h' F V => ?_) 96 0 g2 rfl ((Fr.refl g2).mono (by simp) (by simp) (by simp)) (fun j hj => absurd hj (Nat.not_lt_zero _))
  · rw [lk_old (by rw [List.length_cons]; omega)]
    exact ho
  · exact k h' (B2.fr F ⟨l2, c3⟩ V)
end ZBS
